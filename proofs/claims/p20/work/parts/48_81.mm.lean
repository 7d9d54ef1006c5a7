/-! THE NUMBERS OF mend(), AND CHANGES, PURELY -/
abbrev kNt : Type := List Int32 × List Int32 × List Int32 × List Int32 × Int32 × Int32 × Int32
abbrev kTold (b n w : Int32) : Prop := (0 ≤ w.toInt ∧ w.toInt ≤ 3 ∧ 0 ≤ n.toInt ∧ n.toInt < b.toInt) ∨ (4 ≤ w.toInt ∧ w.toInt ≤ 6 ∧ n.toInt = 0)
abbrev kFit (w v : Int32) : Prop := (w.toInt = 0 ∧ 0 ≤ v.toInt ∧ v.toInt ≤ 999) ∨ ((w.toInt = 1 ∨ w.toInt = 2) ∧ 0 ≤ v.toInt ∧ v.toInt ≤ 9) ∨ ((w.toInt = 3 ∨ w.toInt = 5) ∧ 0 ≤ v.toInt ∧ v.toInt ≤ 1) ∨ (w.toInt = 4 ∧ 1 ≤ v.toInt ∧ v.toInt ≤ 5) ∨ (w.toInt = 6 ∧ 0 ≤ v.toInt ∧ v.toInt ≤ 99)
theorem kFit_0 {w v : Int32} (h : w.toInt = 0) : kFit w v ↔ (0 ≤ v.toInt ∧ v.toInt ≤ 999) := by constructor <;> intro z <;> omega
theorem kFit_1 {w v : Int32} (h : w.toInt = 1) : kFit w v ↔ (0 ≤ v.toInt ∧ v.toInt ≤ 9) := by constructor <;> intro z <;> omega
theorem kFit_2 {w v : Int32} (h : w.toInt = 2) : kFit w v ↔ (0 ≤ v.toInt ∧ v.toInt ≤ 9) := by constructor <;> intro z <;> omega
theorem kFit_3 {w v : Int32} (h : w.toInt = 3) : kFit w v ↔ (0 ≤ v.toInt ∧ v.toInt ≤ 1) := by constructor <;> intro z <;> omega
theorem kFit_4 {w v : Int32} (h : w.toInt = 4) : kFit w v ↔ (1 ≤ v.toInt ∧ v.toInt ≤ 5) := by constructor <;> intro z <;> omega
theorem kFit_5 {w v : Int32} (h : w.toInt = 5) : kFit w v ↔ (0 ≤ v.toInt ∧ v.toInt ≤ 1) := by constructor <;> intro z <;> omega
theorem kFit_6 {w v : Int32} (h : w.toInt = 6) : kFit w v ↔ (0 ≤ v.toInt ∧ v.toInt ≤ 99) := by constructor <;> intro z <;> omega
def cGet (b n w : Int32) (T : kNt) : Int32 :=
  if w.toInt = 4 then T.2.2.2.2.1 else if w.toInt = 5 then T.2.2.2.2.2.1 else if w.toInt = 6 then T.2.2.2.2.2.2
  else if 0 ≤ n.toInt ∧ n.toInt < b.toInt then
    (if w.toInt = 0 then T.1.getD n.toNatClampNeg 0 else if w.toInt = 1 then T.2.1.getD n.toNatClampNeg 0 else if w.toInt = 2 then T.2.2.1.getD n.toNatClampNeg 0 else T.2.2.2.1.getD n.toNatClampNeg 0)
  else -1
def cSet (b n w v : Int32) (T : kNt) : kNt :=
  if w.toInt = 4 then (T.1, T.2.1, T.2.2.1, T.2.2.2.1, v, T.2.2.2.2.2.1, T.2.2.2.2.2.2) else if w.toInt = 5 then (T.1, T.2.1, T.2.2.1, T.2.2.2.1, T.2.2.2.2.1, v, T.2.2.2.2.2.2) else if w.toInt = 6 then (T.1, T.2.1, T.2.2.1, T.2.2.2.1, T.2.2.2.2.1, T.2.2.2.2.2.1, v)
  else if 0 ≤ n.toInt ∧ n.toInt < b.toInt then
    (if w.toInt = 0 then (T.1.set n.toNatClampNeg v, T.2.1, T.2.2.1, T.2.2.2.1, T.2.2.2.2.1, T.2.2.2.2.2.1, T.2.2.2.2.2.2) else if w.toInt = 1 then (T.1, T.2.1.set n.toNatClampNeg v, T.2.2.1, T.2.2.2.1, T.2.2.2.2.1, T.2.2.2.2.2.1, T.2.2.2.2.2.2) else if w.toInt = 2 then (T.1, T.2.1, T.2.2.1.set n.toNatClampNeg v, T.2.2.2.1, T.2.2.2.2.1, T.2.2.2.2.2.1, T.2.2.2.2.2.2) else (T.1, T.2.1, T.2.2.1, T.2.2.2.1.set n.toNatClampNeg v, T.2.2.2.2.1, T.2.2.2.2.2.1, T.2.2.2.2.2.2))
  else T
/-- changes: number, what, before, after, kept, done -/
abbrev kCg : Type := List Int32 × List Int32 × List Int32 × List Int32 × Int32 × Int32
def nAdd (n w u v : Int32) (G : kCg) : kCg :=
  if 40 ≤ G.2.2.2.2.2.toInt then ((mi_cpy G.1 G.1 (1 : Int32).toNatClampNeg (0 : Int32).toNatClampNeg (39 : Int32).toNatClampNeg).set (39 : Int32).toNatClampNeg n, (mi_cpy G.2.1 G.2.1 (1 : Int32).toNatClampNeg (0 : Int32).toNatClampNeg (39 : Int32).toNatClampNeg).set (39 : Int32).toNatClampNeg w, (mi_cpy G.2.2.1 G.2.2.1 (1 : Int32).toNatClampNeg (0 : Int32).toNatClampNeg (39 : Int32).toNatClampNeg).set (39 : Int32).toNatClampNeg u, (mi_cpy G.2.2.2.1 G.2.2.2.1 (1 : Int32).toNatClampNeg (0 : Int32).toNatClampNeg (39 : Int32).toNatClampNeg).set (39 : Int32).toNatClampNeg v, 40, 40)
  else (G.1.set G.2.2.2.2.2.toNatClampNeg n, G.2.1.set G.2.2.2.2.2.toNatClampNeg w, G.2.2.1.set G.2.2.2.2.2.toNatClampNeg u, G.2.2.2.1.set G.2.2.2.2.2.toNatClampNeg v, G.2.2.2.2.2 + 1, G.2.2.2.2.2 + 1)
def cMend (b n w v : Int32) (T : kNt) (G : kCg) : Int32 × kNt × kCg :=
  if kTold b n w ∧ kFit w v then (if (cGet b n w T).toInt = v.toInt then (cGet b n w T, T, G) else (cGet b n w T, cSet b n w v T, nAdd n w (cGet b n w T) v G)) else (-1, T, G)
def nOf (b n w : Int32) (T : kNt) : Int32 := if kTold b n w then cGet b n w T else -1
def cUndo (b : Int32) (T : kNt) (G : kCg) : Int32 × kNt × kCg :=
  if G.2.2.2.2.2.toInt ≤ 0 then (-5, T, G)
  else (G.2.2.2.2.2 - 1, cSet b (G.1.getD (G.2.2.2.2.2 - 1).toNatClampNeg 0) (G.2.1.getD (G.2.2.2.2.2 - 1).toNatClampNeg 0) (G.2.2.1.getD (G.2.2.2.2.2 - 1).toNatClampNeg 0) T, (G.1, G.2.1, G.2.2.1, G.2.2.2.1, G.2.2.2.2.1, G.2.2.2.2.2 - 1))
def cRedo (b : Int32) (T : kNt) (G : kCg) : Int32 × kNt × kCg :=
  if G.2.2.2.2.1.toInt ≤ G.2.2.2.2.2.toInt then (-5, T, G)
  else (G.2.2.2.2.1 - (G.2.2.2.2.2 + 1), cSet b (G.1.getD G.2.2.2.2.2.toNatClampNeg 0) (G.2.1.getD G.2.2.2.2.2.toNatClampNeg 0) (G.2.2.2.1.getD G.2.2.2.2.2.toNatClampNeg 0) T, (G.1, G.2.1, G.2.2.1, G.2.2.2.1, G.2.2.2.2.1, G.2.2.2.2.2 + 1))
/-! the reference: now, ways, third, dogs; changed, changes, done -/
abbrev kRt : Type := List Int32 × List Int32 × Int32 × Int32
abbrev kRg : Type := List Int32 × Int32 × Int32
def rGet (n w : Int32) (R : kRt) : Int32 :=
  if w.toInt = 0 then R.1.getD n.toNatClampNeg 0 else if w.toInt = 4 then R.2.2.1 else if w.toInt = 5 then R.2.2.2 else if w.toInt = 6 then R.1.getD (8 : Int32).toNatClampNeg 0 else R.2.1.getD (8 * w - 8 + n).toNatClampNeg 0
def rSet (n w v : Int32) (R : kRt) : kRt :=
  if w.toInt = 0 then (R.1.set n.toNatClampNeg v, R.2.1, R.2.2.1, R.2.2.2) else if w.toInt = 4 then (R.1, R.2.1, v, R.2.2.2) else if w.toInt = 5 then (R.1, R.2.1, R.2.2.1, v) else if w.toInt = 6 then (R.1.set (8 : Int32).toNatClampNeg v, R.2.1, R.2.2.1, R.2.2.2) else (R.1, R.2.1.set (8 * w - 8 + n).toNatClampNeg v, R.2.2.1, R.2.2.2)
def rShf (L : List Int32) : List Int32 := L.drop 4 ++ L.drop 156
def rPut (n w u v d : Int32) (L : List Int32) : List Int32 := (((L.set (4 * d).toNatClampNeg n).set (4 * d + 1).toNatClampNeg w).set (4 * d + 2).toNatClampNeg u).set (4 * d + 3).toNatClampNeg v
def rAdd (n w u v : Int32) (G : kRg) : kRg :=
  if G.2.2.toInt = 40 then (rPut n w u v (G.2.2 - 1) (rShf G.1), G.2.2 - 1 + 1, G.2.2 - 1 + 1) else (rPut n w u v G.2.2 G.1, G.2.2 + 1, G.2.2 + 1)
def rMend (b n w v : Int32) (R : kRt) (G : kRg) : Int32 × kRt × kRg :=
  if kTold b n w ∧ kFit w v then (if (rGet n w R).toInt = v.toInt then (rGet n w R, R, G) else (rGet n w R, rSet n w v R, rAdd n w (rGet n w R) v G)) else (-1, R, G)
def rOf (b n w : Int32) (R : kRt) : Int32 := if kTold b n w then rGet n w R else -1
def rUndo (R : kRt) (G : kRg) : Int32 × kRt × kRg :=
  if G.2.2.toInt = 0 then (-5, R, G) else (G.2.2 - 1, rSet (G.1.getD (4 * (G.2.2 - 1)).toNatClampNeg 0) (G.1.getD (4 * (G.2.2 - 1) + 1).toNatClampNeg 0) (G.1.getD (4 * (G.2.2 - 1) + 2).toNatClampNeg 0) R, (G.1, G.2.1, G.2.2 - 1))
def rRedo (R : kRt) (G : kRg) : Int32 × kRt × kRg :=
  if G.2.2.toInt = G.2.1.toInt then (-5, R, G) else (G.2.1 - (G.2.2 + 1), rSet (G.1.getD (4 * G.2.2).toNatClampNeg 0) (G.1.getD (4 * G.2.2 + 1).toNatClampNeg 0) (G.1.getD (4 * G.2.2 + 3).toNatClampNeg 0) R, (G.1, G.2.1, G.2.2 + 1))
/-! alike -/
def nRel (T : kNt) (R : kRt) : Prop := (∀ j : Nat, j < 8 → T.1.getD j 0 = R.1.getD j 0) ∧ (∀ j : Nat, j < 8 → T.2.1.getD j 0 = R.2.1.getD j 0 ∧ T.2.2.1.getD j 0 = R.2.1.getD (8 + j) 0 ∧ T.2.2.2.1.getD j 0 = R.2.1.getD (16 + j) 0) ∧ T.2.2.2.2.1 = R.2.2.1 ∧ T.2.2.2.2.2.1 = R.2.2.2 ∧ T.2.2.2.2.2.2 = R.1.getD 8 0
def nLen (T : kNt) (R : kRt) : Prop := T.1.length = 8 ∧ T.2.1.length = 8 ∧ T.2.2.1.length = 8 ∧ T.2.2.2.1.length = 8 ∧ R.1.length = 31 ∧ R.2.1.length = 24
theorem rIx {n w : Int32} (hn : 0 ≤ n.toInt) (hn8 : n.toInt < 8) (hw : 1 ≤ w.toInt) (hw3 : w.toInt ≤ 3) : (8 * w - 8 + n).toNatClampNeg = 8 * (w.toNatClampNeg - 1) + n.toNatClampNeg := by
  have e0 : (8 * w).toInt = 8 * w.toInt := kd_cmul 8 (by decide) (by omega) (by omega)
  have k8 : (8 : Int32).toInt = 8 := by decide
  have e1 : (8 * w - 8).toInt = (8 * w).toInt - (8 : Int32).toInt := kd_sub (by omega) (by omega)
  have e2 : (8 * w - 8 + n).toInt = (8 * w - 8).toInt + n.toInt := kd_add (by omega) (by omega)
  have t1 := Int32.toNat_toInt (8 * w - 8 + n)
  have t2 := Int32.toNat_toInt w
  have t3 := Int32.toNat_toInt n
  omega
theorem get_rel {b n w : Int32} {T : kNt} {R : kRt} (h : nRel T R) (hb : b.toInt ≤ 8) (ht : kTold b n w) : cGet b n w T = rGet n w R := by
  obtain ⟨h1, h2, h3, h4, h5⟩ := h
  have tn := Int32.toNat_toInt n
  have tw := Int32.toNat_toInt w
  unfold cGet rGet
  rcases ht with ⟨g1, g2, g3, g4⟩ | ⟨g1, g2, g3⟩
  · have n4 : ¬ (w.toInt = 4) := by omega
    have n5 : ¬ (w.toInt = 5) := by omega
    have n6 : ¬ (w.toInt = 6) := by omega
    simp only [if_neg n4, if_neg n5, if_neg n6, if_pos (show 0 ≤ n.toInt ∧ n.toInt < b.toInt from ⟨g3, g4⟩)]
    by_cases c0 : w.toInt = 0
    · simp only [if_pos c0]; exact h1 _ (by omega)
    · obtain ⟨q1, q2, q3⟩ := h2 n.toNatClampNeg (by omega)
      simp only [if_neg c0]
      rw [rIx g3 (by omega) (by omega) g2]
      by_cases c1 : w.toInt = 1
      · rw [if_pos c1, show w.toNatClampNeg - 1 = 0 by omega, Nat.mul_zero, Nat.zero_add]; exact q1
      · simp only [if_neg c1]
        by_cases c2 : w.toInt = 2
        · rw [if_pos c2, show w.toNatClampNeg - 1 = 1 by omega]; exact q2
        · rw [if_neg c2, show w.toNatClampNeg - 1 = 2 by omega]; exact q3
  · by_cases c4 : w.toInt = 4
    · have n0 : ¬ (w.toInt = 0) := by omega
      simp only [if_pos c4, if_neg n0]; exact h3
    · have n0 : ¬ (w.toInt = 0) := by omega
      simp only [if_neg c4, if_neg n0]
      by_cases c5 : w.toInt = 5
      · simp only [if_pos c5]; exact h4
      · have c6 : w.toInt = 6 := by omega
        simp only [if_neg c5, if_pos c6]; exact h5
theorem set_rel {b n w v : Int32} {T : kNt} {R : kRt} (h : nRel T R) (hl : nLen T R) (hb : b.toInt ≤ 8) (ht : kTold b n w) : nRel (cSet b n w v T) (rSet n w v R) ∧ (∀ j : Nat, 9 ≤ j → (rSet n w v R).1.getD j 0 = R.1.getD j 0) ∧ (∀ j : Nat, b.toInt ≤ j → (rSet n w v R).2.1.getD (16 + j) 0 = R.2.1.getD (16 + j) 0) := by
  obtain ⟨h1, h2, h3, h4, h5⟩ := h
  obtain ⟨l1, l2, l3, l4, l5, l6⟩ := hl
  have tn := Int32.toNat_toInt n
  have tw := Int32.toNat_toInt w
  have k8 : (8 : Int32).toNatClampNeg = 8 := by decide
  unfold cSet rSet
  rcases ht with ⟨g1, g2, g3, g4⟩ | ⟨g1, g2, g3⟩
  · have n4 : ¬ (w.toInt = 4) := by omega
    have n5 : ¬ (w.toInt = 5) := by omega
    have n6 : ¬ (w.toInt = 6) := by omega
    simp only [if_neg n4, if_neg n5, if_neg n6, if_pos (show 0 ≤ n.toInt ∧ n.toInt < b.toInt from ⟨g3, g4⟩)]
    by_cases c0 : w.toInt = 0
    · simp only [if_pos c0]
      refine ⟨⟨fun j hj => ?_, h2, h3, h4, ?_⟩, fun j hj => ?_, fun j hj => by first | rfl | trivial⟩
      · try dsimp only
        rw [kset_gI (by omega), kset_gI (by omega), h1 j hj]
      · try dsimp only
        rw [kset_gI (by omega), if_neg (by omega)]; exact h5
      · try dsimp only
        rw [kset_gI (by omega), if_neg (by omega)]
    · simp only [if_neg c0]
      rw [rIx g3 (by omega) (by omega) g2]
      by_cases c1 : w.toInt = 1
      · simp only [if_pos c1]
        refine ⟨⟨h1, fun j hj => ?_, h3, h4, h5⟩, fun j hj => by first | rfl | trivial, fun j hj => ?_⟩
        · try dsimp only
          obtain ⟨q1, q2, q3⟩ := h2 j hj
          rw [kset_gI (by omega), kset_gI (by omega), kset_gI (by omega), kset_gI (by omega), if_neg (by omega : ¬ (8 + j = _)), if_neg (by omega : ¬ (16 + j = _))]
          refine ⟨?_, q2, q3⟩
          by_cases cj : j = n.toNatClampNeg
          · rw [if_pos cj, if_pos (by omega)]
          · rw [if_neg cj, if_neg (by omega)]; exact q1
        · try dsimp only
          rw [kset_gI (by omega), if_neg (by omega)]
      · simp only [if_neg c1]
        by_cases c2 : w.toInt = 2
        · simp only [if_pos c2]
          refine ⟨⟨h1, fun j hj => ?_, h3, h4, h5⟩, fun j hj => by first | rfl | trivial, fun j hj => ?_⟩
          · try dsimp only
            obtain ⟨q1, q2, q3⟩ := h2 j hj
            rw [kset_gI (by omega), kset_gI (by omega), kset_gI (by omega), kset_gI (by omega), if_neg (by omega : ¬ (j = 8 * _ + _)), if_neg (by omega : ¬ (16 + j = _))]
            refine ⟨q1, ?_, q3⟩
            by_cases cj : j = n.toNatClampNeg
            · rw [if_pos cj, if_pos (by omega)]
            · rw [if_neg cj, if_neg (by omega)]; exact q2
          · try dsimp only
            rw [kset_gI (by omega), if_neg (by omega)]
        · simp only [if_neg c2]
          refine ⟨⟨h1, fun j hj => ?_, h3, h4, h5⟩, fun j hj => by first | rfl | trivial, fun j hj => ?_⟩
          · try dsimp only
            obtain ⟨q1, q2, q3⟩ := h2 j hj
            rw [kset_gI (by omega), kset_gI (by omega), kset_gI (by omega), kset_gI (by omega), if_neg (by omega : ¬ (j = 8 * _ + _)), if_neg (by omega : ¬ (8 + j = _))]
            refine ⟨q1, q2, ?_⟩
            by_cases cj : j = n.toNatClampNeg
            · rw [if_pos cj, if_pos (by omega)]
            · rw [if_neg cj, if_neg (by omega)]; exact q3
          · try dsimp only
            rw [kset_gI (by omega), if_neg (by omega)]
  · by_cases c4 : w.toInt = 4
    · have n0 : ¬ (w.toInt = 0) := by omega
      simp only [if_pos c4, if_neg n0]
      exact ⟨⟨h1, h2, rfl, h4, h5⟩, fun j hj => by first | rfl | trivial, fun j hj => by first | rfl | trivial⟩
    · have n0 : ¬ (w.toInt = 0) := by omega
      simp only [if_neg c4, if_neg n0]
      by_cases c5 : w.toInt = 5
      · simp only [if_pos c5]
        exact ⟨⟨h1, h2, h3, rfl, h5⟩, fun j hj => by first | rfl | trivial, fun j hj => by first | rfl | trivial⟩
      · have c6 : w.toInt = 6 := by omega
        simp only [if_neg c5, if_pos c6, k8]
        refine ⟨⟨fun j hj => ?_, h2, h3, h4, ?_⟩, fun j hj => ?_, fun j hj => by first | rfl | trivial⟩
        · try dsimp only
          rw [kset_gI (by omega), if_neg (by omega)]; exact h1 j hj
        · try dsimp only
          rw [kset_gI (by omega), if_pos rfl]
        · try dsimp only
          rw [kset_gI (by omega), if_neg (by omega)]
def gOne (b : Int32) (G : kCg) (L : List Int32) (j : Nat) : Prop := G.1.getD j 0 = L.getD (4 * j) 0 ∧ G.2.1.getD j 0 = L.getD (4 * j + 1) 0 ∧ G.2.2.1.getD j 0 = L.getD (4 * j + 2) 0 ∧ G.2.2.2.1.getD j 0 = L.getD (4 * j + 3) 0 ∧ kTold b (G.1.getD j 0) (G.2.1.getD j 0)
def gRel (b : Int32) (G : kCg) (R : kRg) : Prop := G.2.2.2.2.1 = R.2.1 ∧ G.2.2.2.2.2 = R.2.2 ∧ (0 ≤ R.2.2.toInt ∧ R.2.2.toInt ≤ R.2.1.toInt ∧ R.2.1.toInt ≤ 40) ∧ ∀ j : Nat, (j : Int) < R.2.1.toInt → gOne b G R.1 j
def gLen (G : kCg) (R : kRg) : Prop := G.1.length = 40 ∧ G.2.1.length = 40 ∧ G.2.2.1.length = 40 ∧ G.2.2.2.1.length = 40 ∧ R.1.length = 160
theorem rShf_g {L : List Int32} (h : L.length = 160) (j : Nat) (hj : j < 156) : (rShf L).getD j 0 = L.getD (j + 4) 0 ∧ (rShf L).length = 160 := by
  unfold rShf
  refine ⟨?_, by rw [List.length_append, List.length_drop, List.length_drop]; omega⟩
  rw [List.getD_eq_getElem?_getD, List.getElem?_append_left (by rw [List.length_drop]; omega), List.getElem?_drop, ← List.getD_eq_getElem?_getD, show 4 + j = j + 4 by omega]
theorem rPut_g {n w u v d : Int32} {L : List Int32} {D : Nat} (hL : L.length = 160) (h0 : d.toInt = (D : Int)) (h1 : D < 40) (j : Nat) : (rPut n w u v d L).length = 160 ∧ (rPut n w u v d L).getD j 0 = if j = 4 * D + 3 then v else if j = 4 * D + 2 then u else if j = 4 * D + 1 then w else if j = 4 * D then n else L.getD j 0 := by
  have e0 : (4 * d).toInt = 4 * d.toInt := kd_cmul 4 (by decide) (by omega) (by omega)
  have k1 : (1 : Int32).toInt = 1 := by decide
  have k2 : (2 : Int32).toInt = 2 := by decide
  have k3 : (3 : Int32).toInt = 3 := by decide
  have e1 : (4 * d + 1).toInt = (4 * d).toInt + (1 : Int32).toInt := kd_add (by omega) (by omega)
  have e2 : (4 * d + 2).toInt = (4 * d).toInt + (2 : Int32).toInt := kd_add (by omega) (by omega)
  have e3 : (4 * d + 3).toInt = (4 * d).toInt + (3 : Int32).toInt := kd_add (by omega) (by omega)
  have t0 := Int32.toNat_toInt (4 * d)
  have t1 := Int32.toNat_toInt (4 * d + 1)
  have t2 := Int32.toNat_toInt (4 * d + 2)
  have t3 := Int32.toNat_toInt (4 * d + 3)
  unfold rPut
  rw [show (4 * d).toNatClampNeg = 4 * D by omega, show (4 * d + 1).toNatClampNeg = 4 * D + 1 by omega, show (4 * d + 2).toNatClampNeg = 4 * D + 2 by omega, show (4 * d + 3).toNatClampNeg = 4 * D + 3 by omega]
  refine ⟨by rw [List.length_set, List.length_set, List.length_set, List.length_set]; exact hL, ?_⟩
  rw [kset_gI (by rw [List.length_set, List.length_set, List.length_set]; omega), kset_gI (by rw [List.length_set, List.length_set]; omega), kset_gI (by rw [List.length_set]; omega), kset_gI (by omega)]
theorem rPut_4 {n w u v d : Int32} {L : List Int32} {D : Nat} (hL : L.length = 160) (h0 : d.toInt = (D : Int)) (h1 : D < 40) (j : Nat) : (rPut n w u v d L).getD (4 * j) 0 = (if j = D then n else L.getD (4 * j) 0) ∧ (rPut n w u v d L).getD (4 * j + 1) 0 = (if j = D then w else L.getD (4 * j + 1) 0) ∧ (rPut n w u v d L).getD (4 * j + 2) 0 = (if j = D then u else L.getD (4 * j + 2) 0) ∧ (rPut n w u v d L).getD (4 * j + 3) 0 = (if j = D then v else L.getD (4 * j + 3) 0) := by
  rw [(rPut_g hL h0 h1 (4 * j)).2, (rPut_g hL h0 h1 (4 * j + 1)).2, (rPut_g hL h0 h1 (4 * j + 2)).2, (rPut_g hL h0 h1 (4 * j + 3)).2]
  refine ⟨?_, ?_, ?_, ?_⟩ <;> (repeat' split) <;> first | rfl | (exfalso; omega)
theorem add_rel {b n w u v : Int32} {G : kCg} {R : kRg} (h : gRel b G R) (hl : gLen G R) (ht : kTold b n w) : gRel b (nAdd n w u v G) (rAdd n w u v R) := by
  obtain ⟨G1, G2, G3, G4, gk, gd⟩ := G
  obtain ⟨L, rk, rd⟩ := R
  obtain ⟨e1, e2, ⟨h0, h1, h2⟩, h3⟩ := h
  obtain ⟨l1, l2, l3, l4, l5⟩ := hl
  dsimp only at e1 e2 h0 h1 h2 h3 l1 l2 l3 l4 l5
  subst e1
  subst e2
  have k1 : (1 : Int32).toNatClampNeg = 1 := by decide
  have k0 : (0 : Int32).toNatClampNeg = 0 := by decide
  have k39 : (39 : Int32).toNatClampNeg = 39 := by decide
  have k1i : (1 : Int32).toInt = 1 := by decide
  have k40 : (40 : Int32).toInt = 40 := by decide
  unfold nAdd rAdd
  by_cases c : gd.toInt = 40
  · have hc : (40 : Int) ≤ (G1, G2, G3, G4, gk, gd).2.2.2.2.2.toInt := by dsimp only; omega
    have hr : (L, gk, gd).2.2.toInt = 40 := c
    rw [if_pos hc, if_pos hr]
    dsimp only
    have ed : (gd - 1).toInt = ((39 : Nat) : Int) := by
      have := kd_sub (x := gd) (y := 1) (by omega) (by omega)
      omega
    have e4 : gd - 1 + 1 = 40 := kj_v (by
      have := kd_add (x := gd - 1) (y := 1) (by omega) (by omega)
      omega)
    rw [e4, k1, k0, k39]
    refine ⟨rfl, rfl, ⟨by dsimp only; omega, by dsimp only; omega, by dsimp only; omega⟩, fun j hj => ?_⟩
    have hj : (j : Int) < 40 := hj
    obtain ⟨p0, p1, p2, p3⟩ := rPut_4 (n := n) (w := w) (u := u) (v := v) (L := rShf L) (rShf_g l5 0 (by omega)).2 ed (by omega) j
    have c0 : ∀ (l : List Int32) (x : Int32), l.length = 40 → ((mi_cpy l l 1 0 39).set 39 x).getD j 0 = if j = 39 then x else l.getD (j + 1) 0 := fun l x hl => by
      rw [kset_gI (by rw [mi_cpy_len (by omega) (by omega)]; omega)]
      by_cases cj : j = 39
      · rw [if_pos cj, if_pos cj]
      · rw [if_neg cj, if_neg cj, cpy_g (by omega) (by omega), if_pos (by omega), show 1 + (j - 0) = j + 1 by omega]
    unfold gOne
    dsimp only
    rw [p0, p1, p2, p3, c0 _ _ l1, c0 _ _ l2, c0 _ _ l3, c0 _ _ l4]
    by_cases cj : j = 39
    · simp only [if_pos cj, true_and]
      exact ht
    · have q := h3 (j + 1) (by omega)
      unfold gOne at q
      dsimp only at q
      have z0 := (rShf_g l5 (4 * j) (by omega)).1
      have z1 := (rShf_g l5 (4 * j + 1) (by omega)).1
      have z2 := (rShf_g l5 (4 * j + 2) (by omega)).1
      have z3 := (rShf_g l5 (4 * j + 3) (by omega)).1
      rw [show 4 * j + 4 = 4 * (j + 1) by omega] at z0
      rw [show 4 * j + 1 + 4 = 4 * (j + 1) + 1 by omega] at z1
      rw [show 4 * j + 2 + 4 = 4 * (j + 1) + 2 by omega] at z2
      rw [show 4 * j + 3 + 4 = 4 * (j + 1) + 3 by omega] at z3
      simp only [if_neg cj, z0, z1, z2, z3]
      exact q
  · have hc : ¬ ((40 : Int) ≤ (G1, G2, G3, G4, gk, gd).2.2.2.2.2.toInt) := by dsimp only; omega
    have hr : ¬ ((L, gk, gd).2.2.toInt = 40) := c
    rw [if_neg hc, if_neg hr]
    dsimp only
    have td := Int32.toNat_toInt gd
    have e1 : (gd + 1).toInt = gd.toInt + 1 := by
      have := kd_add (x := gd) (y := 1) (by omega) (by omega)
      omega
    refine ⟨rfl, rfl, ⟨by dsimp only; omega, by dsimp only; omega, by dsimp only; omega⟩, fun j hj => ?_⟩
    have hj : (j : Int) < (gd + 1).toInt := hj
    obtain ⟨p0, p1, p2, p3⟩ := rPut_4 (n := n) (w := w) (u := u) (v := v) (D := gd.toNatClampNeg) (d := gd) l5 (by omega) (by omega) j
    have c0 : ∀ (l : List Int32) (x : Int32), l.length = 40 → (l.set gd.toNatClampNeg x).getD j 0 = if j = gd.toNatClampNeg then x else l.getD j 0 := fun l x hl => kset_gI (by omega)
    unfold gOne
    dsimp only
    rw [p0, p1, p2, p3, c0 _ _ l1, c0 _ _ l2, c0 _ _ l3, c0 _ _ l4]
    by_cases cj : j = gd.toNatClampNeg
    · simp only [if_pos cj, true_and]
      exact ht
    · have q := h3 j (by omega)
      simp only [if_neg cj]
      exact q
def mnRel (b : Int32) (X : Int32 × kNt × kCg) (Y : Int32 × kRt × kRg) : Prop := X.1 = Y.1 ∧ nRel X.2.1 Y.2.1 ∧ gRel b X.2.2 Y.2.2
def mnKeep (b : Int32) (R : kRt) (Y : Int32 × kRt × kRg) : Prop := (∀ j : Nat, 9 ≤ j → Y.2.1.1.getD j 0 = R.1.getD j 0) ∧ (∀ j : Nat, b.toInt ≤ j → Y.2.1.2.1.getD (16 + j) 0 = R.2.1.getD (16 + j) 0)
theorem mend_rel {b n w v : Int32} {T : kNt} {R : kRt} {G : kCg} {C : kRg} (h : nRel T R) (hl : nLen T R) (hg : gRel b G C) (hgl : gLen G C) (hb : b.toInt ≤ 8) : mnRel b (cMend b n w v T G) (rMend b n w v R C) ∧ mnKeep b R (rMend b n w v R C) := by
  unfold cMend rMend
  by_cases c : kTold b n w ∧ kFit w v
  · rw [if_pos c, if_pos c, ← get_rel h hb c.1]
    by_cases c2 : (cGet b n w T).toInt = v.toInt
    · rw [if_pos c2, if_pos c2]
      exact ⟨⟨rfl, h, hg⟩, fun j _ => rfl, fun j _ => rfl⟩
    · rw [if_neg c2, if_neg c2]
      obtain ⟨s1, s2, s3⟩ := set_rel (v := v) h hl hb c.1
      exact ⟨⟨rfl, s1, add_rel hg hgl c.1⟩, s2, s3⟩
  · rw [if_neg c, if_neg c]
    exact ⟨⟨rfl, h, hg⟩, fun j _ => rfl, fun j _ => rfl⟩
theorem gIx {d : Int32} {D : Nat} (h0 : d.toInt = (D : Int)) (h1 : D < 40) : d.toNatClampNeg = D ∧ (4 * d).toNatClampNeg = 4 * D ∧ (4 * d + 1).toNatClampNeg = 4 * D + 1 ∧ (4 * d + 2).toNatClampNeg = 4 * D + 2 ∧ (4 * d + 3).toNatClampNeg = 4 * D + 3 := by
  have e0 : (4 * d).toInt = 4 * d.toInt := kd_cmul 4 (by decide) (by omega) (by omega)
  have k1 : (1 : Int32).toInt = 1 := by decide
  have k2 : (2 : Int32).toInt = 2 := by decide
  have k3 : (3 : Int32).toInt = 3 := by decide
  have e1 : (4 * d + 1).toInt = (4 * d).toInt + (1 : Int32).toInt := kd_add (by omega) (by omega)
  have e2 : (4 * d + 2).toInt = (4 * d).toInt + (2 : Int32).toInt := kd_add (by omega) (by omega)
  have e3 : (4 * d + 3).toInt = (4 * d).toInt + (3 : Int32).toInt := kd_add (by omega) (by omega)
  have t := Int32.toNat_toInt d
  have t0 := Int32.toNat_toInt (4 * d)
  have t1 := Int32.toNat_toInt (4 * d + 1)
  have t2 := Int32.toNat_toInt (4 * d + 2)
  have t3 := Int32.toNat_toInt (4 * d + 3)
  omega
theorem undo_rel {b : Int32} {T : kNt} {R : kRt} {G : kCg} {C : kRg} (h : nRel T R) (hl : nLen T R) (hg : gRel b G C) (hb : b.toInt ≤ 8) : mnRel b (cUndo b T G) (rUndo R C) ∧ mnKeep b R (rUndo R C) := by
  obtain ⟨G1, G2, G3, G4, gk, gd⟩ := G
  obtain ⟨L, rk, rd⟩ := C
  obtain ⟨e1, e2, ⟨h0, h1, h2⟩, h3⟩ := hg
  dsimp only at e1 e2 h0 h1 h2 h3
  subst e1
  subst e2
  unfold cUndo rUndo
  dsimp only
  by_cases c : gd.toInt = 0
  · rw [if_pos (by omega), if_pos c]
    exact ⟨⟨rfl, h, rfl, rfl, ⟨h0, h1, h2⟩, h3⟩, fun j _ => rfl, fun j _ => rfl⟩
  · rw [if_neg (by omega), if_neg c]
    have k1 : (1 : Int32).toInt = 1 := by decide
    have ed : (gd - 1).toInt = gd.toInt - 1 := by
      have := kd_sub (x := gd) (y := 1) (by omega) (by omega)
      omega
    obtain ⟨i0, i1, i2, i3, i4⟩ := gIx (d := gd - 1) (D := (gd.toInt - 1).toNat) (by omega) (by omega)
    obtain ⟨q1, q2, q3, q4, q5⟩ := h3 (gd.toInt - 1).toNat (by omega)
    dsimp only at q1 q2 q3 q4 q5
    rw [i0, i1, i2, i3, ← q1, ← q2, ← q3]
    obtain ⟨s1, s2, s3⟩ := set_rel (v := G3.getD (gd.toInt - 1).toNat 0) h hl hb q5
    exact ⟨⟨rfl, s1, rfl, rfl, ⟨by dsimp only; omega, by dsimp only; omega, h2⟩, h3⟩, s2, s3⟩
theorem redo_rel {b : Int32} {T : kNt} {R : kRt} {G : kCg} {C : kRg} (h : nRel T R) (hl : nLen T R) (hg : gRel b G C) (hb : b.toInt ≤ 8) : mnRel b (cRedo b T G) (rRedo R C) ∧ mnKeep b R (rRedo R C) := by
  obtain ⟨G1, G2, G3, G4, gk, gd⟩ := G
  obtain ⟨L, rk, rd⟩ := C
  obtain ⟨e1, e2, ⟨h0, h1, h2⟩, h3⟩ := hg
  dsimp only at e1 e2 h0 h1 h2 h3
  subst e1
  subst e2
  unfold cRedo rRedo
  dsimp only
  by_cases c : gd.toInt = gk.toInt
  · rw [if_pos (by omega), if_pos c]
    exact ⟨⟨rfl, h, rfl, rfl, ⟨h0, h1, h2⟩, h3⟩, fun j _ => rfl, fun j _ => rfl⟩
  · rw [if_neg (by omega), if_neg c]
    have k1 : (1 : Int32).toInt = 1 := by decide
    have ed : (gd + 1).toInt = gd.toInt + 1 := by
      have := kd_add (x := gd) (y := 1) (by omega) (by omega)
      omega
    obtain ⟨i0, i1, i2, i3, i4⟩ := gIx (d := gd) (D := gd.toInt.toNat) (by omega) (by omega)
    obtain ⟨q1, q2, q3, q4, q5⟩ := h3 gd.toInt.toNat (by omega)
    dsimp only at q1 q2 q3 q4 q5
    rw [i0, i1, i2, i4, ← q1, ← q2, ← q4]
    obtain ⟨s1, s2, s3⟩ := set_rel (v := G4.getD gd.toInt.toNat 0) h hl hb q5
    exact ⟨⟨rfl, s1, rfl, rfl, ⟨by dsimp only; omega, by dsimp only; omega, h2⟩, h3⟩, s2, s3⟩
/-- more buyers: what is told stays told -/
theorem told_up {b b1 n w : Int32} (h : b.toInt ≤ b1.toInt) (ht : kTold b n w) : kTold b1 n w := by omega
theorem gRel_up {b b1 : Int32} {G : kCg} {R : kRg} (h : b.toInt ≤ b1.toInt) (hg : gRel b G R) : gRel b1 G R :=
  ⟨hg.1, hg.2.1, hg.2.2.1, fun j hj => by obtain ⟨q1, q2, q3, q4, q5⟩ := hg.2.2.2 j hj; exact ⟨q1, q2, q3, q4, told_up h q5⟩⟩

