section
/-! THE NUMBERS OF mend(), AND CHANGES, PURELY -/
abbrev kNt : Type := List Int32 × List Int32 × List Int32 × List Int32 × Int32 × Int32 × Int32
noncomputable abbrev kTold (b n w : Int32) : Prop := (0 ≤ w.toInt ∧ w.toInt ≤ 3 ∧ 0 ≤ n.toInt ∧ n.toInt < b.toInt) ∨ (4 ≤ w.toInt ∧ w.toInt ≤ 6 ∧ n.toInt = 0)
noncomputable abbrev kFit (w v : Int32) : Prop := (w.toInt = 0 ∧ 0 ≤ v.toInt ∧ v.toInt ≤ 999) ∨ ((w.toInt = 1 ∨ w.toInt = 2) ∧ 0 ≤ v.toInt ∧ v.toInt ≤ 9) ∨ ((w.toInt = 3 ∨ w.toInt = 5) ∧ 0 ≤ v.toInt ∧ v.toInt ≤ 1) ∨ (w.toInt = 4 ∧ 1 ≤ v.toInt ∧ v.toInt ≤ 5) ∨ (w.toInt = 6 ∧ 0 ≤ v.toInt ∧ v.toInt ≤ 99)
theorem kFit_0 {w v : Int32} (h : w.toInt = 0) : kFit w v ↔ (0 ≤ v.toInt ∧ v.toInt ≤ 999) := by constructor <;> intro z <;> omega
theorem kFit_1 {w v : Int32} (h : w.toInt = 1) : kFit w v ↔ (0 ≤ v.toInt ∧ v.toInt ≤ 9) := by constructor <;> intro z <;> omega
theorem kFit_2 {w v : Int32} (h : w.toInt = 2) : kFit w v ↔ (0 ≤ v.toInt ∧ v.toInt ≤ 9) := by constructor <;> intro z <;> omega
theorem kFit_3 {w v : Int32} (h : w.toInt = 3) : kFit w v ↔ (0 ≤ v.toInt ∧ v.toInt ≤ 1) := by constructor <;> intro z <;> omega
theorem kFit_4 {w v : Int32} (h : w.toInt = 4) : kFit w v ↔ (1 ≤ v.toInt ∧ v.toInt ≤ 5) := by constructor <;> intro z <;> omega
theorem kFit_5 {w v : Int32} (h : w.toInt = 5) : kFit w v ↔ (0 ≤ v.toInt ∧ v.toInt ≤ 1) := by constructor <;> intro z <;> omega
theorem kFit_6 {w v : Int32} (h : w.toInt = 6) : kFit w v ↔ (0 ≤ v.toInt ∧ v.toInt ≤ 99) := by constructor <;> intro z <;> omega
noncomputable def cGet (b n w : Int32) (T : kNt) : Int32 :=
  if w.toInt = 4 then T.2.2.2.2.1 else if w.toInt = 5 then T.2.2.2.2.2.1 else if w.toInt = 6 then T.2.2.2.2.2.2
  else if 0 ≤ n.toInt ∧ n.toInt < b.toInt then
    (if w.toInt = 0 then T.1.getD n.toNatClampNeg 0 else if w.toInt = 1 then T.2.1.getD n.toNatClampNeg 0 else if w.toInt = 2 then T.2.2.1.getD n.toNatClampNeg 0 else T.2.2.2.1.getD n.toNatClampNeg 0)
  else -1
noncomputable def cSet (b n w v : Int32) (T : kNt) : kNt :=
  if w.toInt = 4 then (T.1, T.2.1, T.2.2.1, T.2.2.2.1, v, T.2.2.2.2.2.1, T.2.2.2.2.2.2) else if w.toInt = 5 then (T.1, T.2.1, T.2.2.1, T.2.2.2.1, T.2.2.2.2.1, v, T.2.2.2.2.2.2) else if w.toInt = 6 then (T.1, T.2.1, T.2.2.1, T.2.2.2.1, T.2.2.2.2.1, T.2.2.2.2.2.1, v)
  else if 0 ≤ n.toInt ∧ n.toInt < b.toInt then
    (if w.toInt = 0 then (T.1.set n.toNatClampNeg v, T.2.1, T.2.2.1, T.2.2.2.1, T.2.2.2.2.1, T.2.2.2.2.2.1, T.2.2.2.2.2.2) else if w.toInt = 1 then (T.1, T.2.1.set n.toNatClampNeg v, T.2.2.1, T.2.2.2.1, T.2.2.2.2.1, T.2.2.2.2.2.1, T.2.2.2.2.2.2) else if w.toInt = 2 then (T.1, T.2.1, T.2.2.1.set n.toNatClampNeg v, T.2.2.2.1, T.2.2.2.2.1, T.2.2.2.2.2.1, T.2.2.2.2.2.2) else (T.1, T.2.1, T.2.2.1, T.2.2.2.1.set n.toNatClampNeg v, T.2.2.2.2.1, T.2.2.2.2.2.1, T.2.2.2.2.2.2))
  else T
/-- changes: number, what, before, after, kept, done -/
abbrev kCg : Type := List Int32 × List Int32 × List Int32 × List Int32 × Int32 × Int32
noncomputable def nAdd (n w u v : Int32) (G : kCg) : kCg :=
  if 40 ≤ G.2.2.2.2.2.toInt then ((mi_cpy G.1 G.1 (1 : Int32).toNatClampNeg (0 : Int32).toNatClampNeg (39 : Int32).toNatClampNeg).set (39 : Int32).toNatClampNeg n, (mi_cpy G.2.1 G.2.1 (1 : Int32).toNatClampNeg (0 : Int32).toNatClampNeg (39 : Int32).toNatClampNeg).set (39 : Int32).toNatClampNeg w, (mi_cpy G.2.2.1 G.2.2.1 (1 : Int32).toNatClampNeg (0 : Int32).toNatClampNeg (39 : Int32).toNatClampNeg).set (39 : Int32).toNatClampNeg u, (mi_cpy G.2.2.2.1 G.2.2.2.1 (1 : Int32).toNatClampNeg (0 : Int32).toNatClampNeg (39 : Int32).toNatClampNeg).set (39 : Int32).toNatClampNeg v, 40, 40)
  else (G.1.set G.2.2.2.2.2.toNatClampNeg n, G.2.1.set G.2.2.2.2.2.toNatClampNeg w, G.2.2.1.set G.2.2.2.2.2.toNatClampNeg u, G.2.2.2.1.set G.2.2.2.2.2.toNatClampNeg v, G.2.2.2.2.2 + 1, G.2.2.2.2.2 + 1)
noncomputable def cMend (b n w v : Int32) (T : kNt) (G : kCg) : Int32 × kNt × kCg :=
  if kTold b n w ∧ kFit w v then (if (cGet b n w T).toInt = v.toInt then (cGet b n w T, T, G) else (cGet b n w T, cSet b n w v T, nAdd n w (cGet b n w T) v G)) else (-1, T, G)
noncomputable def nOf (b n w : Int32) (T : kNt) : Int32 := if kTold b n w then cGet b n w T else -1
noncomputable def cUndo (b : Int32) (T : kNt) (G : kCg) : Int32 × kNt × kCg :=
  if G.2.2.2.2.2.toInt ≤ 0 then (-5, T, G)
  else (G.2.2.2.2.2 - 1, cSet b (G.1.getD (G.2.2.2.2.2 - 1).toNatClampNeg 0) (G.2.1.getD (G.2.2.2.2.2 - 1).toNatClampNeg 0) (G.2.2.1.getD (G.2.2.2.2.2 - 1).toNatClampNeg 0) T, (G.1, G.2.1, G.2.2.1, G.2.2.2.1, G.2.2.2.2.1, G.2.2.2.2.2 - 1))
noncomputable def cRedo (b : Int32) (T : kNt) (G : kCg) : Int32 × kNt × kCg :=
  if G.2.2.2.2.1.toInt ≤ G.2.2.2.2.2.toInt then (-5, T, G)
  else (G.2.2.2.2.1 - (G.2.2.2.2.2 + 1), cSet b (G.1.getD G.2.2.2.2.2.toNatClampNeg 0) (G.2.1.getD G.2.2.2.2.2.toNatClampNeg 0) (G.2.2.2.1.getD G.2.2.2.2.2.toNatClampNeg 0) T, (G.1, G.2.1, G.2.2.1, G.2.2.2.1, G.2.2.2.2.1, G.2.2.2.2.2 + 1))
/-! the reference: now, ways, third, dogs; changed, changes, done -/
abbrev kRt : Type := List Int32 × List Int32 × Int32 × Int32
abbrev kRg : Type := List Int32 × Int32 × Int32
noncomputable def rGet (n w : Int32) (R : kRt) : Int32 :=
  if w.toInt = 0 then R.1.getD n.toNatClampNeg 0 else if w.toInt = 4 then R.2.2.1 else if w.toInt = 5 then R.2.2.2 else if w.toInt = 6 then R.1.getD (8 : Int32).toNatClampNeg 0 else R.2.1.getD (8 * w - 8 + n).toNatClampNeg 0
noncomputable def rSet (n w v : Int32) (R : kRt) : kRt :=
  if w.toInt = 0 then (R.1.set n.toNatClampNeg v, R.2.1, R.2.2.1, R.2.2.2) else if w.toInt = 4 then (R.1, R.2.1, v, R.2.2.2) else if w.toInt = 5 then (R.1, R.2.1, R.2.2.1, v) else if w.toInt = 6 then (R.1.set (8 : Int32).toNatClampNeg v, R.2.1, R.2.2.1, R.2.2.2) else (R.1, R.2.1.set (8 * w - 8 + n).toNatClampNeg v, R.2.2.1, R.2.2.2)
noncomputable def rShf (L : List Int32) : List Int32 := L.drop 4 ++ L.drop 156
noncomputable def rPut (n w u v d : Int32) (L : List Int32) : List Int32 := (((L.set (4 * d).toNatClampNeg n).set (4 * d + 1).toNatClampNeg w).set (4 * d + 2).toNatClampNeg u).set (4 * d + 3).toNatClampNeg v
noncomputable def rAdd (n w u v : Int32) (G : kRg) : kRg :=
  if G.2.2.toInt = 40 then (rPut n w u v (G.2.2 - 1) (rShf G.1), G.2.2 - 1 + 1, G.2.2 - 1 + 1) else (rPut n w u v G.2.2 G.1, G.2.2 + 1, G.2.2 + 1)
noncomputable def rMend (b n w v : Int32) (R : kRt) (G : kRg) : Int32 × kRt × kRg :=
  if kTold b n w ∧ kFit w v then (if (rGet n w R).toInt = v.toInt then (rGet n w R, R, G) else (rGet n w R, rSet n w v R, rAdd n w (rGet n w R) v G)) else (-1, R, G)
noncomputable def rOf (b n w : Int32) (R : kRt) : Int32 := if kTold b n w then rGet n w R else -1
noncomputable def rUndo (R : kRt) (G : kRg) : Int32 × kRt × kRg :=
  if G.2.2.toInt = 0 then (-5, R, G) else (G.2.2 - 1, rSet (G.1.getD (4 * (G.2.2 - 1)).toNatClampNeg 0) (G.1.getD (4 * (G.2.2 - 1) + 1).toNatClampNeg 0) (G.1.getD (4 * (G.2.2 - 1) + 2).toNatClampNeg 0) R, (G.1, G.2.1, G.2.2 - 1))
noncomputable def rRedo (R : kRt) (G : kRg) : Int32 × kRt × kRg :=
  if G.2.2.toInt = G.2.1.toInt then (-5, R, G) else (G.2.1 - (G.2.2 + 1), rSet (G.1.getD (4 * G.2.2).toNatClampNeg 0) (G.1.getD (4 * G.2.2 + 1).toNatClampNeg 0) (G.1.getD (4 * G.2.2 + 3).toNatClampNeg 0) R, (G.1, G.2.1, G.2.2 + 1))
/-! alike -/
noncomputable def nRel (T : kNt) (R : kRt) : Prop := (∀ j : Nat, j < 8 → T.1.getD j 0 = R.1.getD j 0) ∧ (∀ j : Nat, j < 8 → T.2.1.getD j 0 = R.2.1.getD j 0 ∧ T.2.2.1.getD j 0 = R.2.1.getD (8 + j) 0 ∧ T.2.2.2.1.getD j 0 = R.2.1.getD (16 + j) 0) ∧ T.2.2.2.2.1 = R.2.2.1 ∧ T.2.2.2.2.2.1 = R.2.2.2 ∧ T.2.2.2.2.2.2 = R.1.getD 8 0
noncomputable def nLen (T : kNt) (R : kRt) : Prop := T.1.length = 8 ∧ T.2.1.length = 8 ∧ T.2.2.1.length = 8 ∧ T.2.2.2.1.length = 8 ∧ R.1.length = 31 ∧ R.2.1.length = 24
theorem rIx {n w : Int32} (hn : 0 ≤ n.toInt) (hn8 : n.toInt < 8) (hw : 1 ≤ w.toInt) (hw3 : w.toInt ≤ 3) : (8 * w - 8 + n).toNatClampNeg = 8 * (w.toNatClampNeg - 1) + n.toNatClampNeg := by
  have e0 : (8 * w).toInt = 8 * w.toInt := kd_cmul 8 (by decide) (by omega) (by omega)
  have k8 : (8 : Int32).toInt = 8 := by decide
  have e1 : (8 * w - 8).toInt = (8 * w).toInt - (8 : Int32).toInt := kd_sub (by omega) (by omega)
  have e2 : (8 * w - 8 + n).toInt = (8 * w - 8).toInt + n.toInt := kd_add (by omega) (by omega)
  have t1 := Int32.toNat_toInt (8 * w - 8 + n)
  have t2 := Int32.toNat_toInt w
  have t3 := Int32.toNat_toInt n
  omega
theorem get_rel {b n w : Int32} {T : kNt} {R : kRt} (h : nRel T R) (hb : b.toInt ≤ 8) (ht : kTold b n w) : cGet b n w T = rGet n w R := by
  obtain ⟨h1, h2, h3, h4, h5⟩ := h
  have tn := Int32.toNat_toInt n
  have tw := Int32.toNat_toInt w
  unfold cGet rGet
  rcases ht with ⟨g1, g2, g3, g4⟩ | ⟨g1, g2, g3⟩
  · have n4 : ¬ (w.toInt = 4) := by omega
    have n5 : ¬ (w.toInt = 5) := by omega
    have n6 : ¬ (w.toInt = 6) := by omega
    simp only [if_neg n4, if_neg n5, if_neg n6, if_pos (show 0 ≤ n.toInt ∧ n.toInt < b.toInt from ⟨g3, g4⟩)]
    by_cases c0 : w.toInt = 0
    · simp only [if_pos c0]; exact h1 _ (by omega)
    · obtain ⟨q1, q2, q3⟩ := h2 n.toNatClampNeg (by omega)
      simp only [if_neg c0]
      rw [rIx g3 (by omega) (by omega) g2]
      by_cases c1 : w.toInt = 1
      · rw [if_pos c1, show w.toNatClampNeg - 1 = 0 by omega, Nat.mul_zero, Nat.zero_add]; exact q1
      · simp only [if_neg c1]
        by_cases c2 : w.toInt = 2
        · rw [if_pos c2, show w.toNatClampNeg - 1 = 1 by omega]; exact q2
        · rw [if_neg c2, show w.toNatClampNeg - 1 = 2 by omega]; exact q3
  · by_cases c4 : w.toInt = 4
    · have n0 : ¬ (w.toInt = 0) := by omega
      simp only [if_pos c4, if_neg n0]; exact h3
    · have n0 : ¬ (w.toInt = 0) := by omega
      simp only [if_neg c4, if_neg n0]
      by_cases c5 : w.toInt = 5
      · simp only [if_pos c5]; exact h4
      · have c6 : w.toInt = 6 := by omega
        simp only [if_neg c5, if_pos c6]; exact h5
theorem set_rel {b n w v : Int32} {T : kNt} {R : kRt} (h : nRel T R) (hl : nLen T R) (hb : b.toInt ≤ 8) (ht : kTold b n w) : nRel (cSet b n w v T) (rSet n w v R) ∧ (∀ j : Nat, 9 ≤ j → (rSet n w v R).1.getD j 0 = R.1.getD j 0) ∧ (∀ j : Nat, b.toInt ≤ j → (rSet n w v R).2.1.getD (16 + j) 0 = R.2.1.getD (16 + j) 0) := by
  obtain ⟨h1, h2, h3, h4, h5⟩ := h
  obtain ⟨l1, l2, l3, l4, l5, l6⟩ := hl
  have tn := Int32.toNat_toInt n
  have tw := Int32.toNat_toInt w
  have k8 : (8 : Int32).toNatClampNeg = 8 := by decide
  unfold cSet rSet
  rcases ht with ⟨g1, g2, g3, g4⟩ | ⟨g1, g2, g3⟩
  · have n4 : ¬ (w.toInt = 4) := by omega
    have n5 : ¬ (w.toInt = 5) := by omega
    have n6 : ¬ (w.toInt = 6) := by omega
    simp only [if_neg n4, if_neg n5, if_neg n6, if_pos (show 0 ≤ n.toInt ∧ n.toInt < b.toInt from ⟨g3, g4⟩)]
    by_cases c0 : w.toInt = 0
    · simp only [if_pos c0]
      refine ⟨⟨fun j hj => ?_, h2, h3, h4, ?_⟩, fun j hj => ?_, fun j hj => by first | rfl | trivial⟩
      · try dsimp only
        rw [kset_gI (by omega), kset_gI (by omega), h1 j hj]
      · try dsimp only
        rw [kset_gI (by omega), if_neg (by omega)]; exact h5
      · try dsimp only
        rw [kset_gI (by omega), if_neg (by omega)]
    · simp only [if_neg c0]
      rw [rIx g3 (by omega) (by omega) g2]
      by_cases c1 : w.toInt = 1
      · simp only [if_pos c1]
        refine ⟨⟨h1, fun j hj => ?_, h3, h4, h5⟩, fun j hj => by first | rfl | trivial, fun j hj => ?_⟩
        · try dsimp only
          obtain ⟨q1, q2, q3⟩ := h2 j hj
          rw [kset_gI (by omega), kset_gI (by omega), kset_gI (by omega), kset_gI (by omega), if_neg (by omega : ¬ (8 + j = _)), if_neg (by omega : ¬ (16 + j = _))]
          refine ⟨?_, q2, q3⟩
          by_cases cj : j = n.toNatClampNeg
          · rw [if_pos cj, if_pos (by omega)]
          · rw [if_neg cj, if_neg (by omega)]; exact q1
        · try dsimp only
          rw [kset_gI (by omega), if_neg (by omega)]
      · simp only [if_neg c1]
        by_cases c2 : w.toInt = 2
        · simp only [if_pos c2]
          refine ⟨⟨h1, fun j hj => ?_, h3, h4, h5⟩, fun j hj => by first | rfl | trivial, fun j hj => ?_⟩
          · try dsimp only
            obtain ⟨q1, q2, q3⟩ := h2 j hj
            rw [kset_gI (by omega), kset_gI (by omega), kset_gI (by omega), kset_gI (by omega), if_neg (by omega : ¬ (j = 8 * _ + _)), if_neg (by omega : ¬ (16 + j = _))]
            refine ⟨q1, ?_, q3⟩
            by_cases cj : j = n.toNatClampNeg
            · rw [if_pos cj, if_pos (by omega)]
            · rw [if_neg cj, if_neg (by omega)]; exact q2
          · try dsimp only
            rw [kset_gI (by omega), if_neg (by omega)]
        · simp only [if_neg c2]
          refine ⟨⟨h1, fun j hj => ?_, h3, h4, h5⟩, fun j hj => by first | rfl | trivial, fun j hj => ?_⟩
          · try dsimp only
            obtain ⟨q1, q2, q3⟩ := h2 j hj
            rw [kset_gI (by omega), kset_gI (by omega), kset_gI (by omega), kset_gI (by omega), if_neg (by omega : ¬ (j = 8 * _ + _)), if_neg (by omega : ¬ (8 + j = _))]
            refine ⟨q1, q2, ?_⟩
            by_cases cj : j = n.toNatClampNeg
            · rw [if_pos cj, if_pos (by omega)]
            · rw [if_neg cj, if_neg (by omega)]; exact q3
          · try dsimp only
            rw [kset_gI (by omega), if_neg (by omega)]
  · by_cases c4 : w.toInt = 4
    · have n0 : ¬ (w.toInt = 0) := by omega
      simp only [if_pos c4, if_neg n0]
      exact ⟨⟨h1, h2, rfl, h4, h5⟩, fun j hj => by first | rfl | trivial, fun j hj => by first | rfl | trivial⟩
    · have n0 : ¬ (w.toInt = 0) := by omega
      simp only [if_neg c4, if_neg n0]
      by_cases c5 : w.toInt = 5
      · simp only [if_pos c5]
        exact ⟨⟨h1, h2, h3, rfl, h5⟩, fun j hj => by first | rfl | trivial, fun j hj => by first | rfl | trivial⟩
      · have c6 : w.toInt = 6 := by omega
        simp only [if_neg c5, if_pos c6, k8]
        refine ⟨⟨fun j hj => ?_, h2, h3, h4, ?_⟩, fun j hj => ?_, fun j hj => by first | rfl | trivial⟩
        · try dsimp only
          rw [kset_gI (by omega), if_neg (by omega)]; exact h1 j hj
        · try dsimp only
          rw [kset_gI (by omega), if_pos rfl]
        · try dsimp only
          rw [kset_gI (by omega), if_neg (by omega)]
noncomputable def gOne (b : Int32) (G : kCg) (L : List Int32) (j : Nat) : Prop := G.1.getD j 0 = L.getD (4 * j) 0 ∧ G.2.1.getD j 0 = L.getD (4 * j + 1) 0 ∧ G.2.2.1.getD j 0 = L.getD (4 * j + 2) 0 ∧ G.2.2.2.1.getD j 0 = L.getD (4 * j + 3) 0 ∧ kTold b (G.1.getD j 0) (G.2.1.getD j 0)
noncomputable def gRel (b : Int32) (G : kCg) (R : kRg) : Prop := G.2.2.2.2.1 = R.2.1 ∧ G.2.2.2.2.2 = R.2.2 ∧ (0 ≤ R.2.2.toInt ∧ R.2.2.toInt ≤ R.2.1.toInt ∧ R.2.1.toInt ≤ 40) ∧ ∀ j : Nat, (j : Int) < R.2.1.toInt → gOne b G R.1 j
noncomputable def gLen (G : kCg) (R : kRg) : Prop := G.1.length = 40 ∧ G.2.1.length = 40 ∧ G.2.2.1.length = 40 ∧ G.2.2.2.1.length = 40 ∧ R.1.length = 160
theorem rShf_g {L : List Int32} (h : L.length = 160) (j : Nat) (hj : j < 156) : (rShf L).getD j 0 = L.getD (j + 4) 0 ∧ (rShf L).length = 160 := by
  unfold rShf
  refine ⟨?_, by rw [List.length_append, List.length_drop, List.length_drop]; omega⟩
  rw [List.getD_eq_getElem?_getD, List.getElem?_append_left (by rw [List.length_drop]; omega), List.getElem?_drop, ← List.getD_eq_getElem?_getD, show 4 + j = j + 4 by omega]
theorem rPut_g {n w u v d : Int32} {L : List Int32} {D : Nat} (hL : L.length = 160) (h0 : d.toInt = (D : Int)) (h1 : D < 40) (j : Nat) : (rPut n w u v d L).length = 160 ∧ (rPut n w u v d L).getD j 0 = if j = 4 * D + 3 then v else if j = 4 * D + 2 then u else if j = 4 * D + 1 then w else if j = 4 * D then n else L.getD j 0 := by
  have e0 : (4 * d).toInt = 4 * d.toInt := kd_cmul 4 (by decide) (by omega) (by omega)
  have k1 : (1 : Int32).toInt = 1 := by decide
  have k2 : (2 : Int32).toInt = 2 := by decide
  have k3 : (3 : Int32).toInt = 3 := by decide
  have e1 : (4 * d + 1).toInt = (4 * d).toInt + (1 : Int32).toInt := kd_add (by omega) (by omega)
  have e2 : (4 * d + 2).toInt = (4 * d).toInt + (2 : Int32).toInt := kd_add (by omega) (by omega)
  have e3 : (4 * d + 3).toInt = (4 * d).toInt + (3 : Int32).toInt := kd_add (by omega) (by omega)
  have t0 := Int32.toNat_toInt (4 * d)
  have t1 := Int32.toNat_toInt (4 * d + 1)
  have t2 := Int32.toNat_toInt (4 * d + 2)
  have t3 := Int32.toNat_toInt (4 * d + 3)
  unfold rPut
  rw [show (4 * d).toNatClampNeg = 4 * D by omega, show (4 * d + 1).toNatClampNeg = 4 * D + 1 by omega, show (4 * d + 2).toNatClampNeg = 4 * D + 2 by omega, show (4 * d + 3).toNatClampNeg = 4 * D + 3 by omega]
  refine ⟨by rw [List.length_set, List.length_set, List.length_set, List.length_set]; exact hL, ?_⟩
  rw [kset_gI (by rw [List.length_set, List.length_set, List.length_set]; omega), kset_gI (by rw [List.length_set, List.length_set]; omega), kset_gI (by rw [List.length_set]; omega), kset_gI (by omega)]
theorem rPut_4 {n w u v d : Int32} {L : List Int32} {D : Nat} (hL : L.length = 160) (h0 : d.toInt = (D : Int)) (h1 : D < 40) (j : Nat) : (rPut n w u v d L).getD (4 * j) 0 = (if j = D then n else L.getD (4 * j) 0) ∧ (rPut n w u v d L).getD (4 * j + 1) 0 = (if j = D then w else L.getD (4 * j + 1) 0) ∧ (rPut n w u v d L).getD (4 * j + 2) 0 = (if j = D then u else L.getD (4 * j + 2) 0) ∧ (rPut n w u v d L).getD (4 * j + 3) 0 = (if j = D then v else L.getD (4 * j + 3) 0) := by
  rw [(rPut_g hL h0 h1 (4 * j)).2, (rPut_g hL h0 h1 (4 * j + 1)).2, (rPut_g hL h0 h1 (4 * j + 2)).2, (rPut_g hL h0 h1 (4 * j + 3)).2]
  refine ⟨?_, ?_, ?_, ?_⟩ <;> (repeat' split) <;> first | rfl | (exfalso; omega)
theorem add_rel {b n w u v : Int32} {G : kCg} {R : kRg} (h : gRel b G R) (hl : gLen G R) (ht : kTold b n w) : gRel b (nAdd n w u v G) (rAdd n w u v R) := by
  obtain ⟨G1, G2, G3, G4, gk, gd⟩ := G
  obtain ⟨L, rk, rd⟩ := R
  obtain ⟨e1, e2, ⟨h0, h1, h2⟩, h3⟩ := h
  obtain ⟨l1, l2, l3, l4, l5⟩ := hl
  dsimp only at e1 e2 h0 h1 h2 h3 l1 l2 l3 l4 l5
  subst e1
  subst e2
  have k1 : (1 : Int32).toNatClampNeg = 1 := by decide
  have k0 : (0 : Int32).toNatClampNeg = 0 := by decide
  have k39 : (39 : Int32).toNatClampNeg = 39 := by decide
  have k1i : (1 : Int32).toInt = 1 := by decide
  have k40 : (40 : Int32).toInt = 40 := by decide
  unfold nAdd rAdd
  by_cases c : gd.toInt = 40
  · have hc : (40 : Int) ≤ (G1, G2, G3, G4, gk, gd).2.2.2.2.2.toInt := by dsimp only; omega
    have hr : (L, gk, gd).2.2.toInt = 40 := c
    rw [if_pos hc, if_pos hr]
    dsimp only
    have ed : (gd - 1).toInt = ((39 : Nat) : Int) := by
      have := kd_sub (x := gd) (y := 1) (by omega) (by omega)
      omega
    have e4 : gd - 1 + 1 = 40 := kj_v (by
      have := kd_add (x := gd - 1) (y := 1) (by omega) (by omega)
      omega)
    rw [e4, k1, k0, k39]
    refine ⟨rfl, rfl, ⟨by dsimp only; omega, by dsimp only; omega, by dsimp only; omega⟩, fun j hj => ?_⟩
    have hj : (j : Int) < 40 := hj
    obtain ⟨p0, p1, p2, p3⟩ := rPut_4 (n := n) (w := w) (u := u) (v := v) (L := rShf L) (rShf_g l5 0 (by omega)).2 ed (by omega) j
    have c0 : ∀ (l : List Int32) (x : Int32), l.length = 40 → ((mi_cpy l l 1 0 39).set 39 x).getD j 0 = if j = 39 then x else l.getD (j + 1) 0 := fun l x hl => by
      rw [kset_gI (by rw [mi_cpy_len (by omega) (by omega)]; omega)]
      by_cases cj : j = 39
      · rw [if_pos cj, if_pos cj]
      · rw [if_neg cj, if_neg cj, cpy_g (by omega) (by omega), if_pos (by omega), show 1 + (j - 0) = j + 1 by omega]
    unfold gOne
    dsimp only
    rw [p0, p1, p2, p3, c0 _ _ l1, c0 _ _ l2, c0 _ _ l3, c0 _ _ l4]
    by_cases cj : j = 39
    · simp only [if_pos cj, true_and]
      exact ht
    · have q := h3 (j + 1) (by omega)
      unfold gOne at q
      dsimp only at q
      have z0 := (rShf_g l5 (4 * j) (by omega)).1
      have z1 := (rShf_g l5 (4 * j + 1) (by omega)).1
      have z2 := (rShf_g l5 (4 * j + 2) (by omega)).1
      have z3 := (rShf_g l5 (4 * j + 3) (by omega)).1
      rw [show 4 * j + 4 = 4 * (j + 1) by omega] at z0
      rw [show 4 * j + 1 + 4 = 4 * (j + 1) + 1 by omega] at z1
      rw [show 4 * j + 2 + 4 = 4 * (j + 1) + 2 by omega] at z2
      rw [show 4 * j + 3 + 4 = 4 * (j + 1) + 3 by omega] at z3
      simp only [if_neg cj, z0, z1, z2, z3]
      exact q
  · have hc : ¬ ((40 : Int) ≤ (G1, G2, G3, G4, gk, gd).2.2.2.2.2.toInt) := by dsimp only; omega
    have hr : ¬ ((L, gk, gd).2.2.toInt = 40) := c
    rw [if_neg hc, if_neg hr]
    dsimp only
    have td := Int32.toNat_toInt gd
    have e1 : (gd + 1).toInt = gd.toInt + 1 := by
      have := kd_add (x := gd) (y := 1) (by omega) (by omega)
      omega
    refine ⟨rfl, rfl, ⟨by dsimp only; omega, by dsimp only; omega, by dsimp only; omega⟩, fun j hj => ?_⟩
    have hj : (j : Int) < (gd + 1).toInt := hj
    obtain ⟨p0, p1, p2, p3⟩ := rPut_4 (n := n) (w := w) (u := u) (v := v) (D := gd.toNatClampNeg) (d := gd) l5 (by omega) (by omega) j
    have c0 : ∀ (l : List Int32) (x : Int32), l.length = 40 → (l.set gd.toNatClampNeg x).getD j 0 = if j = gd.toNatClampNeg then x else l.getD j 0 := fun l x hl => kset_gI (by omega)
    unfold gOne
    dsimp only
    rw [p0, p1, p2, p3, c0 _ _ l1, c0 _ _ l2, c0 _ _ l3, c0 _ _ l4]
    by_cases cj : j = gd.toNatClampNeg
    · simp only [if_pos cj, true_and]
      exact ht
    · have q := h3 j (by omega)
      simp only [if_neg cj]
      exact q
noncomputable def mnRel (b : Int32) (X : Int32 × kNt × kCg) (Y : Int32 × kRt × kRg) : Prop := X.1 = Y.1 ∧ nRel X.2.1 Y.2.1 ∧ gRel b X.2.2 Y.2.2
noncomputable def mnKeep (b : Int32) (R : kRt) (Y : Int32 × kRt × kRg) : Prop := (∀ j : Nat, 9 ≤ j → Y.2.1.1.getD j 0 = R.1.getD j 0) ∧ (∀ j : Nat, b.toInt ≤ j → Y.2.1.2.1.getD (16 + j) 0 = R.2.1.getD (16 + j) 0)
theorem mend_rel {b n w v : Int32} {T : kNt} {R : kRt} {G : kCg} {C : kRg} (h : nRel T R) (hl : nLen T R) (hg : gRel b G C) (hgl : gLen G C) (hb : b.toInt ≤ 8) : mnRel b (cMend b n w v T G) (rMend b n w v R C) ∧ mnKeep b R (rMend b n w v R C) := by
  unfold cMend rMend
  by_cases c : kTold b n w ∧ kFit w v
  · rw [if_pos c, if_pos c, ← get_rel h hb c.1]
    by_cases c2 : (cGet b n w T).toInt = v.toInt
    · rw [if_pos c2, if_pos c2]
      exact ⟨⟨rfl, h, hg⟩, fun j _ => rfl, fun j _ => rfl⟩
    · rw [if_neg c2, if_neg c2]
      obtain ⟨s1, s2, s3⟩ := set_rel (v := v) h hl hb c.1
      exact ⟨⟨rfl, s1, add_rel hg hgl c.1⟩, s2, s3⟩
  · rw [if_neg c, if_neg c]
    exact ⟨⟨rfl, h, hg⟩, fun j _ => rfl, fun j _ => rfl⟩
theorem gIx {d : Int32} {D : Nat} (h0 : d.toInt = (D : Int)) (h1 : D < 40) : d.toNatClampNeg = D ∧ (4 * d).toNatClampNeg = 4 * D ∧ (4 * d + 1).toNatClampNeg = 4 * D + 1 ∧ (4 * d + 2).toNatClampNeg = 4 * D + 2 ∧ (4 * d + 3).toNatClampNeg = 4 * D + 3 := by
  have e0 : (4 * d).toInt = 4 * d.toInt := kd_cmul 4 (by decide) (by omega) (by omega)
  have k1 : (1 : Int32).toInt = 1 := by decide
  have k2 : (2 : Int32).toInt = 2 := by decide
  have k3 : (3 : Int32).toInt = 3 := by decide
  have e1 : (4 * d + 1).toInt = (4 * d).toInt + (1 : Int32).toInt := kd_add (by omega) (by omega)
  have e2 : (4 * d + 2).toInt = (4 * d).toInt + (2 : Int32).toInt := kd_add (by omega) (by omega)
  have e3 : (4 * d + 3).toInt = (4 * d).toInt + (3 : Int32).toInt := kd_add (by omega) (by omega)
  have t := Int32.toNat_toInt d
  have t0 := Int32.toNat_toInt (4 * d)
  have t1 := Int32.toNat_toInt (4 * d + 1)
  have t2 := Int32.toNat_toInt (4 * d + 2)
  have t3 := Int32.toNat_toInt (4 * d + 3)
  omega
theorem undo_rel {b : Int32} {T : kNt} {R : kRt} {G : kCg} {C : kRg} (h : nRel T R) (hl : nLen T R) (hg : gRel b G C) (hb : b.toInt ≤ 8) : mnRel b (cUndo b T G) (rUndo R C) ∧ mnKeep b R (rUndo R C) := by
  obtain ⟨G1, G2, G3, G4, gk, gd⟩ := G
  obtain ⟨L, rk, rd⟩ := C
  obtain ⟨e1, e2, ⟨h0, h1, h2⟩, h3⟩ := hg
  dsimp only at e1 e2 h0 h1 h2 h3
  subst e1
  subst e2
  unfold cUndo rUndo
  dsimp only
  by_cases c : gd.toInt = 0
  · rw [if_pos (by omega), if_pos c]
    exact ⟨⟨rfl, h, rfl, rfl, ⟨h0, h1, h2⟩, h3⟩, fun j _ => rfl, fun j _ => rfl⟩
  · rw [if_neg (by omega), if_neg c]
    have k1 : (1 : Int32).toInt = 1 := by decide
    have ed : (gd - 1).toInt = gd.toInt - 1 := by
      have := kd_sub (x := gd) (y := 1) (by omega) (by omega)
      omega
    obtain ⟨i0, i1, i2, i3, i4⟩ := gIx (d := gd - 1) (D := (gd.toInt - 1).toNat) (by omega) (by omega)
    obtain ⟨q1, q2, q3, q4, q5⟩ := h3 (gd.toInt - 1).toNat (by omega)
    dsimp only at q1 q2 q3 q4 q5
    rw [i0, i1, i2, i3, ← q1, ← q2, ← q3]
    obtain ⟨s1, s2, s3⟩ := set_rel (v := G3.getD (gd.toInt - 1).toNat 0) h hl hb q5
    exact ⟨⟨rfl, s1, rfl, rfl, ⟨by dsimp only; omega, by dsimp only; omega, h2⟩, h3⟩, s2, s3⟩
theorem redo_rel {b : Int32} {T : kNt} {R : kRt} {G : kCg} {C : kRg} (h : nRel T R) (hl : nLen T R) (hg : gRel b G C) (hb : b.toInt ≤ 8) : mnRel b (cRedo b T G) (rRedo R C) ∧ mnKeep b R (rRedo R C) := by
  obtain ⟨G1, G2, G3, G4, gk, gd⟩ := G
  obtain ⟨L, rk, rd⟩ := C
  obtain ⟨e1, e2, ⟨h0, h1, h2⟩, h3⟩ := hg
  dsimp only at e1 e2 h0 h1 h2 h3
  subst e1
  subst e2
  unfold cRedo rRedo
  dsimp only
  by_cases c : gd.toInt = gk.toInt
  · rw [if_pos (by omega), if_pos c]
    exact ⟨⟨rfl, h, rfl, rfl, ⟨h0, h1, h2⟩, h3⟩, fun j _ => rfl, fun j _ => rfl⟩
  · rw [if_neg (by omega), if_neg c]
    have k1 : (1 : Int32).toInt = 1 := by decide
    have ed : (gd + 1).toInt = gd.toInt + 1 := by
      have := kd_add (x := gd) (y := 1) (by omega) (by omega)
      omega
    obtain ⟨i0, i1, i2, i3, i4⟩ := gIx (d := gd) (D := gd.toInt.toNat) (by omega) (by omega)
    obtain ⟨q1, q2, q3, q4, q5⟩ := h3 gd.toInt.toNat (by omega)
    dsimp only at q1 q2 q3 q4 q5
    rw [i0, i1, i2, i4, ← q1, ← q2, ← q4]
    obtain ⟨s1, s2, s3⟩ := set_rel (v := G4.getD gd.toInt.toNat 0) h hl hb q5
    exact ⟨⟨rfl, s1, rfl, rfl, ⟨by dsimp only; omega, by dsimp only; omega, h2⟩, h3⟩, s2, s3⟩
/-- more buyers: what is told stays told -/
theorem told_up {b b1 n w : Int32} (h : b.toInt ≤ b1.toInt) (ht : kTold b n w) : kTold b1 n w := by omega
theorem gRel_up {b b1 : Int32} {G : kCg} {R : kRg} (h : b.toInt ≤ b1.toInt) (hg : gRel b G R) : gRel b1 G R :=
  ⟨hg.1, hg.2.1, hg.2.2.1, fun j hj => by obtain ⟨q1, q2, q3, q4, q5⟩ := hg.2.2.2 j hj; exact ⟨q1, q2, q3, q4, told_up h q5⟩⟩
end
section
theorem kou4 : (4 : Int32).toInt = 4 := by decide
theorem kou5 : (5 : Int32).toInt = 5 := by decide
theorem kou6 : (6 : Int32).toInt = 6 := by decide
theorem kou0 : (0 : Int32).toInt = 0 := by decide
theorem kou1 : (1 : Int32).toInt = 1 := by decide
theorem kou39 : (39 : Int32).toInt = 39 := by decide
theorem kou40 : (40 : Int32).toInt = 40 := by decide
theorem kou999 : (999 : Int32).toInt = 999 := by decide
theorem kou3 : (3 : Int32).toInt = 3 := by decide
theorem kou99 : (99 : Int32).toInt = 99 := by decide
theorem ou0 {a0 : Int} (h0 : a0 = 4) : a0 = 4 := oz1446 h0
theorem ou1 {a0 : Int} (h0 : a0 = 5) : ¬ (a0 = 4) := by omega
theorem ou2 {a0 : Int} (h0 : a0 = 5) : a0 = 5 := oz1470 h0
theorem ou3 {a0 : Int} (h0 : a0 = 6) : ¬ (a0 = 4) := by omega
theorem ou4 {a0 : Int} (h0 : a0 = 6) : ¬ (a0 = 5) := by omega
theorem ou5 {a0 : Int} (h0 : a0 = 6) : a0 = 6 := oz1484 h0
theorem ou6 {a0 : Int} (h0 : ¬ (a0 = 4)) (h1 : ¬ (a0 = 5)) (h2 : ¬ (a0 = 6)) : a0 < 4 ∨ 6 < a0 := oz972 h0 h1 h2
theorem ou11 {a0 : Int} (h0 : a0 = 0) : a0 = 0 := oz236 h0
theorem ou12 {a0 : Int} (h0 : a0 = 1) : a0 = 1 := oz1381 h0
theorem ou13 {a0 : Int} (h0 : a0 = 2) : a0 = 2 := oz1411 h0
theorem ou14 {a0 : Int} (h0 : ¬ (a0 = 0)) (h1 : ¬ (a0 = 1)) (h2 : ¬ (a0 = 2)) : a0 < 0 ∨ 2 < a0 := oz973 h0 h1 h2
theorem ou15 {a0 : Int} (h0 : ¬ (a0 = 0)) (h1 : ¬ (a0 = 1)) (h2 : ¬ (a0 = 2)) : (a0 ≠ 0) ∧ (a0 ≠ 1) ∧ (a0 ≠ 2) := by omega
theorem ou16 {a0 : Int} (h0 : (0 : Int) ≤ a0) : (0 : Int) ≤ a0 := oz3 h0
theorem ou17 {a0 a1 : Int} (h0 : a0 ≤ 8) (h1 : a1 < a0) : a1 < 8 := oz974 h0 h1
theorem ou18 {a0 : Int} (h0 : a0 = 0) : ¬ (a0 = 4) := by omega
theorem ou19 {a0 : Int} (h0 : a0 = 0) : ¬ (a0 = 5) := by omega
theorem ou20 {a0 : Int} (h0 : a0 = 0) : ¬ (a0 = 6) := by omega
theorem ou21 {a0 a1 : Int} (h0 : (0 : Int) ≤ a0) (h1 : a0 < a1) : ((0 : Int) ≤ a0) ∧ (a0 < a1) := oz967 h0 h1
theorem ou22 {a0 : Int} (h0 : a0 = 1) : ¬ (a0 = 4) := by omega
theorem ou23 {a0 : Int} (h0 : a0 = 1) : ¬ (a0 = 5) := by omega
theorem ou24 {a0 : Int} (h0 : a0 = 1) : ¬ (a0 = 6) := by omega
theorem ou25 {a0 : Int} (h0 : a0 = 1) : ¬ (a0 = 0) := by omega
theorem ou26 {a0 : Int} (h0 : a0 = 2) : ¬ (a0 = 4) := by omega
theorem ou27 {a0 : Int} (h0 : a0 = 2) : ¬ (a0 = 5) := by omega
theorem ou28 {a0 : Int} (h0 : a0 = 2) : ¬ (a0 = 6) := by omega
theorem ou29 {a0 : Int} (h0 : a0 = 2) : ¬ (a0 = 0) := by omega
theorem ou30 {a0 : Int} (h0 : a0 = 2) : ¬ (a0 = 1) := by omega
theorem ou31 {a0 : Int} (h0 : ¬ (a0 = 4)) : ¬ (a0 = 4) := by omega
theorem ou32 {a0 : Int} (h0 : ¬ (a0 = 4)) (h1 : ¬ (a0 = 5)) : ¬ (a0 = 5) := by omega
theorem ou33 {a0 : Int} (h0 : ¬ (a0 = 4)) (h1 : ¬ (a0 = 5)) (h2 : ¬ (a0 = 6)) : ¬ (a0 = 6) := by omega
theorem ou34 {a0 : Int} (h0 : a0 ≠ 0) : ¬ (a0 = 0) := by omega
theorem ou35 {a0 : Int} (h0 : a0 ≠ 0) (h1 : a0 ≠ 1) : ¬ (a0 = 1) := by omega
theorem ou36 {a0 : Int} (h0 : a0 ≠ 0) (h1 : a0 ≠ 1) (h2 : a0 ≠ 2) : ¬ (a0 = 2) := by omega
theorem ou37 {a0 a1 : Int} (h0 : ¬ (((0 : Int) ≤ a0) ∧ (a0 < a1))) : ¬ (((0 : Int) ≤ a0) ∧ (a0 < a1)) := oz968 h0
theorem ou38 {a0 a1 : Int} (h0 : a0 ≠ a1) (h1 : a1 = 4) : ¬ (a0 = 4) := by omega
theorem ou39 {a0 a1 a2 : Int} (h0 : a0 ≠ a1) (h1 : a0 ≠ a2) (h2 : a1 = 4) (h3 : a2 = 5) : ¬ (a0 = 5) := by omega
theorem ou40 {a0 a1 a2 a3 : Int} (h0 : a0 ≠ a1) (h1 : a0 ≠ a2) (h2 : a0 ≠ a3) (h3 : a1 = 4) (h4 : a2 = 5) (h5 : a3 = 6) : ¬ (a0 = 6) := by omega
theorem ou41 {a0 a1 : Int} (h0 : a0 = a1) (h1 : a1 = 6) : ¬ (a0 = 4) := by omega
theorem ou42 {a0 a1 : Int} (h0 : a0 = a1) (h1 : a1 = 6) : ¬ (a0 = 5) := by omega
theorem ou43 {a0 a1 : Int} (h0 : a0 = a1) (h1 : a1 = 6) : a0 = 6 := by omega
theorem ou44 {a0 a1 : Int} (h0 : a0 = a1) (h1 : a1 = 5) : ¬ (a0 = 4) := by omega
theorem ou45 {a0 a1 : Int} (h0 : a0 = a1) (h1 : a1 = 5) : a0 = 5 := by omega
theorem ou46 {a0 a1 : Int} (h0 : a0 = a1) (h1 : a1 = 4) : a0 = 4 := by omega
theorem ou47 {a0 : Int} (h0 : a0 = 39) : (0 : Int) ≤ a0 := oz977 h0
theorem ou48 {a0 : Int} (h0 : a0 = 39) : a0 ≤ 40 := oz978 h0
theorem ou49 {a0 : Int} (h0 : a0 = 1) : (0 : Int) ≤ a0 := oz246 h0
theorem ou50 {a0 : Int} (h0 : a0 = 0) : (0 : Int) ≤ a0 := oz46 h0
theorem ou51 {a0 a1 : Int} (h0 : a0 = 1) (h1 : a1 = 39) : a0 + a1 ≤ 40 := oz979 h0 h1
theorem ou52 {a0 a1 : Int} (h0 : a0 = 0) (h1 : a1 = 39) : a0 + a1 ≤ 40 := oz980 h0 h1
theorem ou53 {a0 : Int} (h0 : a0 = 39) : a0 = 39 := oz981 h0
theorem ou54 {a0 a1 : Int} (h0 : a0 < a1) (h1 : a1 = 40) : a0 < 40 := oz975 h0 h1
theorem ou55 {a0 a1 : Int} (h0 : (0 : Int) ≤ a0) (h1 : a1 = 1) : (-2147483648 : Int) ≤ a0 + a1 := oz12 h0 h1
theorem ou56 {a0 a1 : Int} (h0 : a0 ≤ 40) (h1 : a1 = 1) : a0 + a1 ≤ 2147483647 := oz120 h0 h1
theorem ou57 {a0 a1 a2 : Int} (h0 : (0 : Int) ≤ a0) (h1 : a1 = a0 + a2) (h2 : a2 = 1) : (0 : Int) ≤ a1 := oz14 h0 h1 h2
theorem ou58 {a0 a1 a2 a3 : Int} (h0 : a0 < a1) (h1 : a2 = a0 + a3) (h2 : a1 = 40) (h3 : a3 = 1) : a2 ≤ 40 := oz976 h0 h1 h2 h3
theorem ou59 {a0 a1 : Int} (h0 : a0 < a1) (h1 : a1 = 40) : ¬ ((40 : Int) ≤ a0) := by omega
theorem ou60 {a0 : Int} (h0 : a0 = 39) : a0 < 40 := oz982 h0
theorem ou61 {a0 a1 : Int} (h0 : a0 = 39) (h1 : a1 = 1) : (-2147483648 : Int) ≤ a0 + a1 := oz983 h0 h1
theorem ou62 {a0 a1 a2 : Int} (h0 : a0 = a1 + a2) (h1 : a1 = 39) (h2 : a2 = 1) : (0 : Int) ≤ a0 := oz984 h0 h1 h2
theorem ou63 {a0 a1 a2 : Int} (h0 : a0 = a1 + a2) (h1 : a1 = 39) (h2 : a2 = 1) : a0 ≤ 40 := oz985 h0 h1 h2
theorem ou64 {a0 a1 : Int} (h0 : a0 ≤ a1) (h1 : a0 = 40) : (40 : Int) ≤ a1 := by omega
theorem ou74 {a0 a1 a2 : Int} (h0 : (((0 : Int) ≤ a0) ∧ (a0 ≤ 3) ∧ ((0 : Int) ≤ a1) ∧ (a1 < a2)) ∨ (((4 : Int) ≤ a0) ∧ (a0 ≤ 6) ∧ (a1 = 0))) : (((0 : Int) ≤ a0) ∧ (a0 ≤ 3) ∧ ((0 : Int) ≤ a1) ∧ (a1 < a2)) ∨ (((4 : Int) ≤ a0) ∧ (a0 ≤ 6) ∧ (a1 = 0)) := by omega
theorem ou75 {a0 a1 a2 : Int} (h0 : (0 : Int) ≤ a0) (h1 : ¬ ((((0 : Int) ≤ a1) ∧ (a1 ≤ 3) ∧ ((0 : Int) ≤ a2) ∧ (a2 < a0)) ∨ (((4 : Int) ≤ a1) ∧ (a1 ≤ 6) ∧ (a2 = 0)))) : ¬ ((((0 : Int) ≤ a1) ∧ (a1 ≤ 3) ∧ ((0 : Int) ≤ a2) ∧ (a2 < a0)) ∨ (((4 : Int) ≤ a1) ∧ (a1 ≤ 6) ∧ (a2 = 0))) := by omega
theorem ou80 {a0 a1 a2 : Int} (h0 : a0 ≤ a1) (h1 : a1 ≤ a2) (h2 : a0 = 0) (h3 : a2 = 999) : ((0 : Int) ≤ a1) ∧ (a1 ≤ 999) := by omega
theorem ou81 {a0 a1 a2 : Int} (h0 : ¬ ((a0 ≤ a1) ∧ (a1 ≤ a2))) (h1 : a0 = 0) (h2 : a2 = 999) : ¬ (((0 : Int) ≤ a1) ∧ (a1 ≤ 999)) := by omega
theorem ou82 {a0 a1 : Int} (h0 : ¬ ((a0 ≤ a0) ∧ (a0 ≤ a1))) (h1 : a0 = 0) (h2 : a1 = 6) : False := by omega
theorem ou83 {a0 a1 a2 : Int} (h0 : a0 = 0) (h1 : (((0 : Int) ≤ a0) ∧ (a0 ≤ 3) ∧ ((0 : Int) ≤ a1) ∧ (a1 < a2)) ∨ (((4 : Int) ≤ a0) ∧ (a0 ≤ 6) ∧ (a1 = 0))) : (((0 : Int) ≤ a0) ∧ (a0 ≤ 3) ∧ ((0 : Int) ≤ a1) ∧ (a1 < a2)) ∨ (((4 : Int) ≤ a0) ∧ (a0 ≤ 6) ∧ (a1 = 0)) := by omega
theorem ou84 {a0 : Int} (h0 : (0 : Int) ≤ a0) (h1 : a0 ≤ 999) : (0 : Int) ≤ a0 ∧ a0 ≤ 999 := by omega
theorem ou85 {a0 a1 a2 : Int} (h0 : a0 = a1) (h1 : a0 = a2) : a2 = a1 := by omega
theorem ou86 {a0 a1 a2 : Int} (h0 : a0 ≠ a1) (h1 : a0 = a2) : ¬ (a2 = a1) := by omega
theorem ou87 {a0 : Int} (h0 : ¬ (((0 : Int) ≤ a0) ∧ (a0 ≤ 999))) : ¬ ((0 : Int) ≤ a0 ∧ a0 ≤ 999) := by omega
theorem ou92 {a0 a1 a2 : Int} (h0 : a0 = 1) (h1 : (((0 : Int) ≤ a0) ∧ (a0 ≤ 3) ∧ ((0 : Int) ≤ a1) ∧ (a1 < a2)) ∨ (((4 : Int) ≤ a0) ∧ (a0 ≤ 6) ∧ (a1 = 0))) : (((0 : Int) ≤ a0) ∧ (a0 ≤ 3) ∧ ((0 : Int) ≤ a1) ∧ (a1 < a2)) ∨ (((4 : Int) ≤ a0) ∧ (a0 ≤ 6) ∧ (a1 = 0)) := by omega
theorem ou93 {a0 : Int} (h0 : (0 : Int) ≤ a0) (h1 : a0 ≤ 9) : (0 : Int) ≤ a0 ∧ a0 ≤ 9 := by omega
theorem ou94 {a0 : Int} (h0 : ¬ (((0 : Int) ≤ a0) ∧ (a0 ≤ 9))) : ¬ ((0 : Int) ≤ a0 ∧ a0 ≤ 9) := by omega
theorem ou98 {a0 a1 a2 : Int} (h0 : a0 = 2) (h1 : (((0 : Int) ≤ a0) ∧ (a0 ≤ 3) ∧ ((0 : Int) ≤ a1) ∧ (a1 < a2)) ∨ (((4 : Int) ≤ a0) ∧ (a0 ≤ 6) ∧ (a1 = 0))) : (((0 : Int) ≤ a0) ∧ (a0 ≤ 3) ∧ ((0 : Int) ≤ a1) ∧ (a1 < a2)) ∨ (((4 : Int) ≤ a0) ∧ (a0 ≤ 6) ∧ (a1 = 0)) := by omega
theorem ou101 {a0 a1 a2 : Int} (h0 : a0 ≤ a1) (h1 : a1 ≤ a2) (h2 : a0 = 0) (h3 : a2 = 1) : ((0 : Int) ≤ a1) ∧ (a1 ≤ 1) := by omega
theorem ou102 {a0 a1 a2 : Int} (h0 : ¬ ((a0 ≤ a1) ∧ (a1 ≤ a2))) (h1 : a0 = 0) (h2 : a2 = 1) : ¬ (((0 : Int) ≤ a1) ∧ (a1 ≤ 1)) := by omega
theorem ou103 {a0 a1 a2 : Int} (h0 : ¬ ((a0 ≤ a1) ∧ (a1 ≤ a2))) (h1 : a0 = 0) (h2 : a1 = 3) (h3 : a2 = 6) : False := by omega
theorem ou104 {a0 a1 a2 : Int} (h0 : a0 = 3) (h1 : (((0 : Int) ≤ a0) ∧ (a0 ≤ 3) ∧ ((0 : Int) ≤ a1) ∧ (a1 < a2)) ∨ (((4 : Int) ≤ a0) ∧ (a0 ≤ 6) ∧ (a1 = 0))) : (((0 : Int) ≤ a0) ∧ (a0 ≤ 3) ∧ ((0 : Int) ≤ a1) ∧ (a1 < a2)) ∨ (((4 : Int) ≤ a0) ∧ (a0 ≤ 6) ∧ (a1 = 0)) := by omega
theorem ou105 {a0 : Int} (h0 : a0 = 3) : a0 = 3 := oz1421 h0
theorem ou106 {a0 : Int} (h0 : (0 : Int) ≤ a0) (h1 : a0 ≤ 1) : (0 : Int) ≤ a0 ∧ a0 ≤ 1 := by omega
theorem ou107 {a0 : Int} (h0 : ¬ (((0 : Int) ≤ a0) ∧ (a0 ≤ 1))) : ¬ ((0 : Int) ≤ a0 ∧ a0 ≤ 1) := by omega
theorem ou110 {a0 a1 a2 : Int} (h0 : a0 ≤ a1) (h1 : a1 ≤ a2) (h2 : a0 = 1) (h3 : a2 = 5) : ((1 : Int) ≤ a1) ∧ (a1 ≤ 5) := oz1227 h0 h1 h2 h3
theorem ou111 {a0 a1 a2 : Int} (h0 : ¬ ((a0 ≤ a1) ∧ (a1 ≤ a2))) (h1 : a0 = 1) (h2 : a2 = 5) : ¬ (((1 : Int) ≤ a1) ∧ (a1 ≤ 5)) := by omega
theorem ou112 {a0 a1 a2 : Int} (h0 : ¬ ((a0 ≤ a1) ∧ (a1 ≤ a2))) (h1 : a0 = 0) (h2 : a1 = 4) (h3 : a2 = 6) : False := by omega
theorem ou113 {a0 a1 a2 : Int} (h0 : a0 = 4) (h1 : (((0 : Int) ≤ a0) ∧ (a0 ≤ 3) ∧ ((0 : Int) ≤ a1) ∧ (a1 < a2)) ∨ (((4 : Int) ≤ a0) ∧ (a0 ≤ 6) ∧ (a1 = 0))) : (((0 : Int) ≤ a0) ∧ (a0 ≤ 3) ∧ ((0 : Int) ≤ a1) ∧ (a1 < a2)) ∨ (((4 : Int) ≤ a0) ∧ (a0 ≤ 6) ∧ (a1 = 0)) := by omega
theorem ou114 {a0 : Int} (h0 : (1 : Int) ≤ a0) (h1 : a0 ≤ 5) : (1 : Int) ≤ a0 ∧ a0 ≤ 5 := by omega
theorem ou115 {a0 : Int} (h0 : ¬ (((1 : Int) ≤ a0) ∧ (a0 ≤ 5))) : ¬ ((1 : Int) ≤ a0 ∧ a0 ≤ 5) := by omega
theorem ou118 {a0 a1 a2 : Int} (h0 : ¬ ((a0 ≤ a1) ∧ (a1 ≤ a2))) (h1 : a0 = 0) (h2 : a1 = 5) (h3 : a2 = 6) : False := by omega
theorem ou119 {a0 a1 a2 : Int} (h0 : a0 = 5) (h1 : (((0 : Int) ≤ a0) ∧ (a0 ≤ 3) ∧ ((0 : Int) ≤ a1) ∧ (a1 < a2)) ∨ (((4 : Int) ≤ a0) ∧ (a0 ≤ 6) ∧ (a1 = 0))) : (((0 : Int) ≤ a0) ∧ (a0 ≤ 3) ∧ ((0 : Int) ≤ a1) ∧ (a1 < a2)) ∨ (((4 : Int) ≤ a0) ∧ (a0 ≤ 6) ∧ (a1 = 0)) := by omega
theorem ou122 {a0 a1 a2 : Int} (h0 : a0 ≤ a1) (h1 : a1 ≤ a2) (h2 : a0 = 0) (h3 : a2 = 99) : ((0 : Int) ≤ a1) ∧ (a1 ≤ 99) := by omega
theorem ou123 {a0 a1 a2 : Int} (h0 : ¬ ((a0 ≤ a1) ∧ (a1 ≤ a2))) (h1 : a0 = 0) (h2 : a2 = 99) : ¬ (((0 : Int) ≤ a1) ∧ (a1 ≤ 99)) := by omega
theorem ou124 {a0 a1 : Int} (h0 : ¬ ((a0 ≤ a1) ∧ (a1 ≤ a1))) (h1 : a0 = 0) (h2 : a1 = 6) : False := by omega
theorem ou125 {a0 a1 a2 : Int} (h0 : a0 = 6) (h1 : (((0 : Int) ≤ a0) ∧ (a0 ≤ 3) ∧ ((0 : Int) ≤ a1) ∧ (a1 < a2)) ∨ (((4 : Int) ≤ a0) ∧ (a0 ≤ 6) ∧ (a1 = 0))) : (((0 : Int) ≤ a0) ∧ (a0 ≤ 3) ∧ ((0 : Int) ≤ a1) ∧ (a1 < a2)) ∨ (((4 : Int) ≤ a0) ∧ (a0 ≤ 6) ∧ (a1 = 0)) := by omega
theorem ou126 {a0 : Int} (h0 : (0 : Int) ≤ a0) (h1 : a0 ≤ 99) : (0 : Int) ≤ a0 ∧ a0 ≤ 99 := by omega
theorem ou127 {a0 : Int} (h0 : ¬ (((0 : Int) ≤ a0) ∧ (a0 ≤ 99))) : ¬ ((0 : Int) ≤ a0 ∧ a0 ≤ 99) := by omega
theorem ou128 {a0 a1 a2 : Int} (h0 : ¬ (a0 = 4)) (h1 : ¬ (a0 = 5)) (h2 : ¬ (a0 = 6)) (h3 : ¬ (a0 = 0)) (h4 : ¬ (a0 = 1)) (h5 : ¬ (a0 = 2)) (h6 : ¬ (a0 = 3)) (h7 : (((0 : Int) ≤ a0) ∧ (a0 ≤ 3) ∧ ((0 : Int) ≤ a1) ∧ (a1 < a2)) ∨ (((4 : Int) ≤ a0) ∧ (a0 ≤ 6) ∧ (a1 = 0))) : False := by omega
theorem ou129 {a0 a1 a2 : Int} (h0 : a0 < a1) (h1 : a0 = 0) (h2 : a2 = 1) : (-2147483648 : Int) ≤ a1 - a2 := oz1040 h0 h1 h2
theorem ou130 {a0 a1 : Int} (h0 : a0 ≤ 40) (h1 : a1 = 1) : a0 - a1 ≤ 2147483647 := oz130 h0 h1
theorem ou131 {a0 a1 a2 a3 : Int} (h0 : a0 < a1) (h1 : a2 = a1 - a3) (h2 : a0 = 0) (h3 : a3 = 1) : (0 : Int) ≤ a2 := oz1041 h0 h1 h2 h3
theorem ou132 {a0 a1 a2 : Int} (h0 : a0 ≤ 40) (h1 : a1 = a0 - a2) (h2 : a2 = 1) : a1 ≤ 40 := oz132 h0 h1 h2
theorem ou133 {a0 a1 a2 : Int} (h0 : a0 ≤ 40) (h1 : a1 = a0 - a2) (h2 : a2 = 1) : a1 < 40 := oz1233 h0 h1 h2
theorem ou134 {a0 a1 : Int} (h0 : a0 < a1) (h1 : a0 = 0) : ¬ (a1 ≤ 0) := by omega
theorem ou135 {a0 a1 : Int} (h0 : a0 ≤ a1) (h1 : a1 = 0) : a0 ≤ 0 := by omega
theorem ou136 {a0 a1 : Int} (h0 : a0 < a1) (h1 : a1 ≤ 40) : a0 < 40 := oz1234 h0 h1
theorem ou137 {a0 a1 a2 a3 a4 : Int} (h0 : a0 < a1) (h1 : a2 = a0) (h2 : a1 ≤ 40) (h3 : a3 = a2 + a4) (h4 : a4 = 1) : a3 ≤ 40 := oz1235 h0 h1 h2 h3 h4
theorem ou138 {a0 a1 a2 a3 : Int} (h0 : (0 : Int) ≤ a0) (h1 : a1 ≤ 40) (h2 : a2 = a1 + a3) (h3 : a3 = 1) : (-2147483648 : Int) ≤ a0 - a2 := oz189 h0 h1 h2 h3
theorem ou139 {a0 a1 a2 a3 : Int} (h0 : a0 ≤ 40) (h1 : (0 : Int) ≤ a1) (h2 : a2 = a1 + a3) (h3 : a3 = 1) : a0 - a2 ≤ 2147483647 := oz190 h0 h1 h2 h3
theorem ou140 {a0 a1 : Int} (h0 : a0 < a1) : ¬ (a1 ≤ a0) := by omega
theorem ou141 {a0 a1 : Int} (h0 : a0 ≤ a1) : a0 ≤ a1 := oz173 h0
set_option maxRecDepth 100000 in
theorem ke26_1 {i : Nat → Int32} {a : Nat → List Int32} {q : Nat → List Int64} {r : Nat → Nat} (hI : kI i a q) (hr : kr r) (x1 : Int32) : km 1 26 [.ref 1, .int x1] (ks i a q r) (kPR (ks i a q r) (fun v => (v = 2 ∧ (x1.toInt = 0)) ∨ (v = 3 ∧ (x1.toInt = 1)) ∨ (v = 4 ∧ (x1.toInt = 2)) ∨ (v = 5 ∧ ((x1.toInt ≠ 0) ∧ (x1.toInt ≠ 1) ∧ (x1.toInt ≠ 2))))) := by
  have hG := kG_self kW0 hI hr
  refine km_ofPR (q := (mi_h26, mi_c26)) rfl (by decide) (Nat.le_of_ble_eq_true rfl) ?_
  intro P hP
  refine ft_goL mi_k26 1 1 [(0, .ref 1), (1, .int x1)] [.int x1] (by rfl) ?_
  by_cases w1 : x1.toInt = 0
  ·
    refine ft_swx mi_k26 (pc := 1) (v := 0) (t := 28) (kj_eq w1 (by decide) : x1 = 0) (by decide +kernel) ?_
    refine fo_goS mi_k26 fz26_28_2_32 [.ref 2] rfl ?_
    exact ft_ret mi_k26 (by rfl) (hP 2 (Or.inl ⟨rfl, (ou11 w1)⟩))
  by_cases w2 : x1.toInt = 1
  ·
    refine ft_swx mi_k26 (pc := 1) (v := 1) (t := 33) (kj_eq w2 (by decide) : x1 = 1) (by decide +kernel) ?_
    refine fo_goS mi_k26 fz26_33_2_37 [.ref 3] rfl ?_
    exact ft_ret mi_k26 (by rfl) (hP 3 (Or.inr (Or.inl ⟨rfl, (ou12 w2)⟩)))
  by_cases w3 : x1.toInt = 2
  ·
    refine ft_swx mi_k26 (pc := 1) (v := 2) (t := 38) (kj_eq w3 (by decide) : x1 = 2) (by decide +kernel) ?_
    refine fo_goS mi_k26 fz26_38_2_42 [.ref 4] rfl ?_
    exact ft_ret mi_k26 (by rfl) (hP 4 (Or.inr (Or.inr (Or.inl ⟨rfl, (ou13 w3)⟩))))
  refine ko_sw (ls := [(0, .ref 1), (1, .int x1)]) (r := []) (h := ks i a q r) mi_in26 (v := x1) (i := (.tableswitch 42 0 2 #[27, 32, 37], 27, 0, 0, 0, 0, 0)) (by rfl) rfl (ou14 w1 w2 w3) 43 (by rfl) ?_
  refine fo_goS mi_k26 fz26_43_2_47 [.ref 5] rfl ?_
  exact ft_ret mi_k26 (by rfl) (hP 5 (Or.inr (Or.inr (Or.inr (⟨rfl, (ou15 w1 w2 w3)⟩)))))
set_option maxRecDepth 100000 in
theorem ke27_1 {i : Nat → Int32} {a : Nat → List Int32} {q : Nat → List Int64} {r : Nat → Nat} (hI : kI i a q) (hr : kr r) (x1 : Int32) (x2 : Int32) : km 3 27 [.ref 1, .int x1, .int x2] (ks i a q r) (kPI (ks i a q r) (fun v => (True) ∧ v = cGet (i 64) x1 x2 (a 2, a 3, a 4, a 5, i 70, i 71, i 72))) := by
  have hG := kG_self kW0 hI hr
  refine km_ofPI (q := (mi_h27, mi_c27)) rfl (by decide) (Nat.le_of_ble_eq_true rfl) ?_
  intro P hP
  refine ft_goL mi_k27 1 1 [(0, .ref 1), (1, .int x1), (2, .int x2)] [.int x2] (by rfl) ?_
  by_cases w1 : x2.toInt = 4
  ·
    refine ft_swx mi_k27 (pc := 1) (v := 4) (t := 28) (kj_eq w1 (by decide) : x2 = 4) (by decide +kernel) ?_
    refine fo_goS mi_k27 fz27_28_2_32 [.int (i 70)] rfl ?_
    have bw2 : x2.toInt = 4 := (ou0 w1)
    exact ft_ret mi_k27 (by rfl) (hP (i 70) ⟨trivial, (show (i 70) = cGet (i 64) x1 x2 (a 2, a 3, a 4, a 5, i 70, i 71, i 72) from (by unfold cGet; simp only [if_pos bw2]; first | done | rfl | (simp only [sMn, sMx]; done) | (simp only [sMn, sMx]; rfl)))⟩)
  by_cases w3 : x2.toInt = 5
  ·
    refine ft_swx mi_k27 (pc := 1) (v := 5) (t := 33) (kj_eq w3 (by decide) : x2 = 5) (by decide +kernel) ?_
    refine fo_goS mi_k27 fz27_33_2_37 [.int (i 71)] rfl ?_
    have bw4 : ¬ (x2.toInt = 4) := (ou1 w3)
    have bw5 : x2.toInt = 5 := (ou2 w3)
    exact ft_ret mi_k27 (by rfl) (hP (i 71) ⟨trivial, (show (i 71) = cGet (i 64) x1 x2 (a 2, a 3, a 4, a 5, i 70, i 71, i 72) from (by unfold cGet; simp only [if_neg bw4, if_pos bw5]; first | done | rfl | (simp only [sMn, sMx]; done) | (simp only [sMn, sMx]; rfl)))⟩)
  by_cases w6 : x2.toInt = 6
  ·
    refine ft_swx mi_k27 (pc := 1) (v := 6) (t := 38) (kj_eq w6 (by decide) : x2 = 6) (by decide +kernel) ?_
    refine fo_goS mi_k27 fz27_38_2_42 [.int (i 72)] rfl ?_
    have bw7 : ¬ (x2.toInt = 4) := (ou3 w6)
    have bw8 : ¬ (x2.toInt = 5) := (ou4 w6)
    have bw9 : x2.toInt = 6 := (ou5 w6)
    exact ft_ret mi_k27 (by rfl) (hP (i 72) ⟨trivial, (show (i 72) = cGet (i 64) x1 x2 (a 2, a 3, a 4, a 5, i 70, i 71, i 72) from (by unfold cGet; simp only [if_neg bw7, if_neg bw8, if_pos bw9]; first | done | rfl | (simp only [sMn, sMx]; done) | (simp only [sMn, sMx]; rfl)))⟩)
  refine ko_sw (ls := [(0, .ref 1), (1, .int x1), (2, .int x2)]) (r := []) (h := ks i a q r) mi_in27 (v := x2) (i := (.tableswitch 42 4 6 #[27, 32, 37], 27, 0, 0, 0, 0, 0)) (by rfl) rfl (ou6 w1 w3 w6) 43 (by rfl) ?_
  refine fo_goS mi_k27 fz27_43_2_45 [.int x1, .ref 1] rfl ?_
  refine ko_callPI mi_k27.1 (pc := 45) (ls := [(0, .ref 1), (1, .int x1), (2, .int x2)]) (st := [.int x1, .ref 1]) (h := ks i a q r) (i := (.invokevirtual 85, 3, 24, 0, 9, 0, 165)) (mi_k27.2 _ _ (by rfl)) (ft_invS mi_pq24 (by rfl)) (cy := mi_c24) mi_pq24 rfl (kc24_1 hG.I hG.R x1) (by decide) ?_
  intro vg10 hg10
  rcases hg10 with ⟨eg10, hg10⟩ | ⟨eg10, hg10⟩
  ·
    subst eg10
    have fi_64 : ((0 : Int) ≤ (i 64).toInt) ∧ ((i 64).toInt ≤ 8) := hG.I.1 64
    have z11 : ((0 : Int) ≤ x1.toInt) ∧ (x1.toInt < (i 64).toInt) := hg10
    refine fo_goS mi_k27 fz27_48_3_53 [.int x2, .ref 1] rfl ?_
    refine ko_callPR mi_k27.1 (pc := 53) (ls := [(0, .ref 1), (1, .int x1), (2, .int x2)]) (st := [.int x2, .ref 1]) (h := ks i a q r) (i := (.invokevirtual 89, 3, 26, 0, 9, 0, 166)) (mi_k27.2 _ _ (by rfl)) (ft_invS mi_pq26 (by rfl)) (cy := mi_c26) mi_pq26 rfl (ke26_1 hG.I hG.R x2) (by decide) ?_
    intro vg12 hg12
    rcases hg12 with ⟨eg12, hg12⟩ | ⟨eg12, hg12⟩ | ⟨eg12, hg12⟩ | ⟨eg12, hg12⟩
    ·
      subst eg12
      have z13 : x2.toInt = 0 := hg12
      refine fo_goS mi_k27 fz27_56_1_57 [.int x1, .ref 2] rfl ?_
      refine ko_iald3 mi_k27.1 (n := 8) (c := 8) (ax := (0, 0, 0, 0, 0)) (mi_k27.2 _ _ (by rfl)) (by rfl) (ksG2 _ _ _ _) (hG.I.2.1 2) rfl (ou16 z11.1) (ou17 fi_64.2 z11.2) ?_
      first | refine fo_goS mi_k27 fz27_58_1_62 [.int ((a 2).getD x1.toNatClampNeg 0)] (by rfl) ?_ | refine fo_goS mi_k27 fz27_61_1_62 [.int ((a 2).getD x1.toNatClampNeg 0)] (by rfl) ?_
      have bw14 : ¬ (x2.toInt = 4) := (ou18 z13)
      have bw15 : ¬ (x2.toInt = 5) := (ou19 z13)
      have bw16 : ¬ (x2.toInt = 6) := (ou20 z13)
      have bw17 : ((0 : Int) ≤ x1.toInt) ∧ (x1.toInt < (i 64).toInt) := (ou21 z11.1 z11.2)
      have bw18 : x2.toInt = 0 := (ou11 z13)
      exact ft_ret mi_k27 (by rfl) (hP ((a 2).getD x1.toNatClampNeg 0) ⟨trivial, (show ((a 2).getD x1.toNatClampNeg 0) = cGet (i 64) x1 x2 (a 2, a 3, a 4, a 5, i 70, i 71, i 72) from (by unfold cGet; simp only [if_neg bw14, if_neg bw15, if_neg bw16, if_pos bw17, if_pos bw18]; first | done | rfl | (simp only [sMn, sMx]; done) | (simp only [sMn, sMx]; rfl)))⟩)
    ·
      subst eg12
      have z19 : x2.toInt = 1 := hg12
      refine fo_goS mi_k27 fz27_56_1_57 [.int x1, .ref 3] rfl ?_
      refine ko_iald3 mi_k27.1 (n := 8) (c := 8) (ax := (0, 0, 0, 0, 0)) (mi_k27.2 _ _ (by rfl)) (by rfl) (ksG3 _ _ _ _) (hG.I.2.1 3) rfl (ou16 z11.1) (ou17 fi_64.2 z11.2) ?_
      first | refine fo_goS mi_k27 fz27_58_1_62 [.int ((a 3).getD x1.toNatClampNeg 0)] (by rfl) ?_ | refine fo_goS mi_k27 fz27_61_1_62 [.int ((a 3).getD x1.toNatClampNeg 0)] (by rfl) ?_
      have bw20 : ¬ (x2.toInt = 4) := (ou22 z19)
      have bw21 : ¬ (x2.toInt = 5) := (ou23 z19)
      have bw22 : ¬ (x2.toInt = 6) := (ou24 z19)
      have bw23 : ((0 : Int) ≤ x1.toInt) ∧ (x1.toInt < (i 64).toInt) := (ou21 z11.1 z11.2)
      have bw24 : ¬ (x2.toInt = 0) := (ou25 z19)
      have bw25 : x2.toInt = 1 := (ou12 z19)
      exact ft_ret mi_k27 (by rfl) (hP ((a 3).getD x1.toNatClampNeg 0) ⟨trivial, (show ((a 3).getD x1.toNatClampNeg 0) = cGet (i 64) x1 x2 (a 2, a 3, a 4, a 5, i 70, i 71, i 72) from (by unfold cGet; simp only [if_neg bw20, if_neg bw21, if_neg bw22, if_pos bw23, if_neg bw24, if_pos bw25]; first | done | rfl | (simp only [sMn, sMx]; done) | (simp only [sMn, sMx]; rfl)))⟩)
    ·
      subst eg12
      have z26 : x2.toInt = 2 := hg12
      refine fo_goS mi_k27 fz27_56_1_57 [.int x1, .ref 4] rfl ?_
      refine ko_iald3 mi_k27.1 (n := 8) (c := 8) (ax := (0, 0, 0, 0, 0)) (mi_k27.2 _ _ (by rfl)) (by rfl) (ksG4 _ _ _ _) (hG.I.2.1 4) rfl (ou16 z11.1) (ou17 fi_64.2 z11.2) ?_
      first | refine fo_goS mi_k27 fz27_58_1_62 [.int ((a 4).getD x1.toNatClampNeg 0)] (by rfl) ?_ | refine fo_goS mi_k27 fz27_61_1_62 [.int ((a 4).getD x1.toNatClampNeg 0)] (by rfl) ?_
      have bw27 : ¬ (x2.toInt = 4) := (ou26 z26)
      have bw28 : ¬ (x2.toInt = 5) := (ou27 z26)
      have bw29 : ¬ (x2.toInt = 6) := (ou28 z26)
      have bw30 : ((0 : Int) ≤ x1.toInt) ∧ (x1.toInt < (i 64).toInt) := (ou21 z11.1 z11.2)
      have bw31 : ¬ (x2.toInt = 0) := (ou29 z26)
      have bw32 : ¬ (x2.toInt = 1) := (ou30 z26)
      have bw33 : x2.toInt = 2 := (ou13 z26)
      exact ft_ret mi_k27 (by rfl) (hP ((a 4).getD x1.toNatClampNeg 0) ⟨trivial, (show ((a 4).getD x1.toNatClampNeg 0) = cGet (i 64) x1 x2 (a 2, a 3, a 4, a 5, i 70, i 71, i 72) from (by unfold cGet; simp only [if_neg bw27, if_neg bw28, if_neg bw29, if_pos bw30, if_neg bw31, if_neg bw32, if_pos bw33]; first | done | rfl | (simp only [sMn, sMx]; done) | (simp only [sMn, sMx]; rfl)))⟩)
    ·
      subst eg12
      have z34 : (x2.toInt ≠ 0) ∧ (x2.toInt ≠ 1) ∧ (x2.toInt ≠ 2) := hg12
      refine fo_goS mi_k27 fz27_56_1_57 [.int x1, .ref 5] rfl ?_
      refine ko_iald3 mi_k27.1 (n := 8) (c := 8) (ax := (0, 0, 0, 0, 0)) (mi_k27.2 _ _ (by rfl)) (by rfl) (ksG5 _ _ _ _) (hG.I.2.1 5) rfl (ou16 z11.1) (ou17 fi_64.2 z11.2) ?_
      first | refine fo_goS mi_k27 fz27_58_1_62 [.int ((a 5).getD x1.toNatClampNeg 0)] (by rfl) ?_ | refine fo_goS mi_k27 fz27_61_1_62 [.int ((a 5).getD x1.toNatClampNeg 0)] (by rfl) ?_
      have bw35 : ¬ (x2.toInt = 4) := (ou31 w1)
      have bw36 : ¬ (x2.toInt = 5) := (ou32 w1 w3)
      have bw37 : ¬ (x2.toInt = 6) := (ou33 w1 w3 w6)
      have bw38 : ((0 : Int) ≤ x1.toInt) ∧ (x1.toInt < (i 64).toInt) := (ou21 z11.1 z11.2)
      have bw39 : ¬ (x2.toInt = 0) := (ou34 z34.1)
      have bw40 : ¬ (x2.toInt = 1) := (ou35 z34.1 z34.2.1)
      have bw41 : ¬ (x2.toInt = 2) := (ou36 z34.1 z34.2.1 z34.2.2)
      exact ft_ret mi_k27 (by rfl) (hP ((a 5).getD x1.toNatClampNeg 0) ⟨trivial, (show ((a 5).getD x1.toNatClampNeg 0) = cGet (i 64) x1 x2 (a 2, a 3, a 4, a 5, i 70, i 71, i 72) from (by unfold cGet; simp only [if_neg bw35, if_neg bw36, if_neg bw37, if_pos bw38, if_neg bw39, if_neg bw40, if_neg bw41]; first | done | rfl | (simp only [sMn, sMx]; done) | (simp only [sMn, sMx]; rfl)))⟩)
  ·
    subst eg10
    have z42 : ¬ (((0 : Int) ≤ x1.toInt) ∧ (x1.toInt < (i 64).toInt)) := hg10
    first | refine fo_goS mi_k27 fz27_48_2_62 [.int (-1)] (by rfl) ?_ | refine ft_goS mi_k27 2 62 [.int (-1)] (by rfl) ?_
    have bw43 : ¬ (x2.toInt = 4) := (ou31 w1)
    have bw44 : ¬ (x2.toInt = 5) := (ou32 w1 w3)
    have bw45 : ¬ (x2.toInt = 6) := (ou33 w1 w3 w6)
    have bw46 : ¬ (((0 : Int) ≤ x1.toInt) ∧ (x1.toInt < (i 64).toInt)) := (ou37 z42)
    exact ft_ret mi_k27 (by rfl) (hP (-1) ⟨trivial, (show ((-1) : Int32) = cGet (i 64) x1 x2 (a 2, a 3, a 4, a 5, i 70, i 71, i 72) from (by unfold cGet; simp only [if_neg bw43, if_neg bw44, if_neg bw45, if_neg bw46]; first | done | rfl | (simp only [sMn, sMx]; done) | (simp only [sMn, sMx]; rfl)))⟩)
noncomputable def yw28_1 : kW := ([70, 71, 72], [2, 3, 4, 5], [], [])
set_option maxRecDepth 100000 in
theorem ke28_1 {i : Nat → Int32} {a : Nat → List Int32} {q : Nat → List Int64} {r : Nat → Nat} (hI : kI i a q) (hr : kr r) (x1 : Int32) (x2 : Int32) (x3 : Int32) : km 3 28 [.ref 1, .int x1, .int x2, .int x3] (ks i a q r) (kVN yw28_1 i a q r (fun i1 a1 q1 r1 => (True) ∧ (a1 2 = (cSet (i 64) x1 x2 x3 (a 2, a 3, a 4, a 5, i 70, i 71, i 72)).1 ∧ a1 3 = (cSet (i 64) x1 x2 x3 (a 2, a 3, a 4, a 5, i 70, i 71, i 72)).2.1 ∧ a1 4 = (cSet (i 64) x1 x2 x3 (a 2, a 3, a 4, a 5, i 70, i 71, i 72)).2.2.1 ∧ a1 5 = (cSet (i 64) x1 x2 x3 (a 2, a 3, a 4, a 5, i 70, i 71, i 72)).2.2.2.1 ∧ i1 70 = (cSet (i 64) x1 x2 x3 (a 2, a 3, a 4, a 5, i 70, i 71, i 72)).2.2.2.2.1 ∧ i1 71 = (cSet (i 64) x1 x2 x3 (a 2, a 3, a 4, a 5, i 70, i 71, i 72)).2.2.2.2.2.1 ∧ i1 72 = (cSet (i 64) x1 x2 x3 (a 2, a 3, a 4, a 5, i 70, i 71, i 72)).2.2.2.2.2.2))) := by
  have hG := kG_self yw28_1 hI hr
  refine km_ofN (q := (mi_h28, mi_c28)) rfl (by decide) (Nat.le_of_ble_eq_true rfl) ?_
  intro P hP
  refine ft_goL mi_k28 2 2 [(0, .ref 1), (1, .int x1), (2, .int x2), (3, .int x3)] [.int 4, .int x2] (by rfl) ?_
  refine ft_ifS mi_k28 (x2 != 4) 13 5 [] (by rfl) (fun c => ?_) (fun c => ?_)
  ·
    have c1 : x2.toInt ≠ (4 : Int32).toInt := kd_ne c; clear c
    refine ft_goS mi_k28 2 15 [.int 5, .int x2] (by rfl) ?_
    refine ft_ifS mi_k28 (x2 != 5) 26 18 [] (by rfl) (fun c => ?_) (fun c => ?_)
    ·
      have c2 : x2.toInt ≠ (5 : Int32).toInt := kd_ne c; clear c
      refine ft_goS mi_k28 2 29 [.int 6, .int x2] (by rfl) ?_
      refine ft_ifS mi_k28 (x2 != 6) 40 32 [] (by rfl) (fun c => ?_) (fun c => ?_)
      ·
        have c3 : x2.toInt ≠ (6 : Int32).toInt := kd_ne c; clear c
        refine ft_goS mi_k28 2 42 [.int x1, .ref 1] (by rfl) ?_
        refine ko_callPI mi_k28.1 (pc := 42) (ls := [(0, .ref 1), (1, .int x1), (2, .int x2), (3, .int x3)]) (st := [.int x1, .ref 1]) (h := ks i a q r) (i := (.invokevirtual 85, 3, 24, 0, 9, 0, 165)) (mi_k28.2 _ _ (by rfl)) (ft_invS mi_pq24 (by rfl)) (cy := mi_c24) mi_pq24 rfl (kc24_1 hG.I hG.R x1) (by decide) ?_
        intro vg4 hg4
        rcases hg4 with ⟨eg4, hg4⟩ | ⟨eg4, hg4⟩
        ·
          subst eg4
          have fi_64 : ((0 : Int) ≤ (i 64).toInt) ∧ ((i 64).toInt ≤ 8) := hG.I.1 64
          have z5 : ((0 : Int) ≤ x1.toInt) ∧ (x1.toInt < (i 64).toInt) := hg4
          refine fo_goS mi_k28 fz28_45_3_50 [.int x2, .ref 1] rfl ?_
          refine ko_callPR mi_k28.1 (pc := 50) (ls := [(0, .ref 1), (1, .int x1), (2, .int x2), (3, .int x3)]) (st := [.int x2, .ref 1]) (h := ks i a q r) (i := (.invokevirtual 89, 3, 26, 0, 9, 0, 166)) (mi_k28.2 _ _ (by rfl)) (ft_invS mi_pq26 (by rfl)) (cy := mi_c26) mi_pq26 rfl (ke26_1 hG.I hG.R x2) (by decide) ?_
          intro vg6 hg6
          rcases hg6 with ⟨eg6, hg6⟩ | ⟨eg6, hg6⟩ | ⟨eg6, hg6⟩ | ⟨eg6, hg6⟩
          ·
            subst eg6
            have z7 : x2.toInt = 0 := hg6
            refine fo_goS mi_k28 fz28_53_2_55 [.int x3, .int x1, .ref 2] rfl ?_
            refine ko_iast3 mi_k28.1 (n := 8) (c := 8) (ax := (0, 0, 0, 0, 0)) (mi_k28.2 _ _ (by rfl)) (by rfl) (ksG2 _ _ _ _) (ksA2 _ _ _ _) (hG.I.2.1 2) rfl (ou16 z5.1) (ou17 fi_64.2 z5.2) ?_
            intro a8 ea8 fa8
            have hJ8 := kG_a3 hG 2 rfl ea8 fa8 (kd_bd _)
            have bw9 : ¬ (x2.toInt = 4) := (ou18 z7)
            have bw10 : ¬ (x2.toInt = 5) := (ou19 z7)
            have bw11 : ¬ (x2.toInt = 6) := (ou20 z7)
            have bw12 : ((0 : Int) ≤ x1.toInt) ∧ (x1.toInt < (i 64).toInt) := (ou21 z5.1 z5.2)
            have bw13 : x2.toInt = 0 := (ou11 z7)
            exact ft_ret mi_k28 (by rfl) (hP  _ _ _ _ hJ8 ⟨trivial, ⟨(show a8 2 = (cSet (i 64) x1 x2 x3 (a 2, a 3, a 4, a 5, i 70, i 71, i 72)).1 from (by unfold cSet; simp only [if_neg bw9, if_neg bw10, if_neg bw11, if_pos bw12, if_pos bw13]; first | done | rfl | (simp only [ea8, sMn, sMx]; done) | (simp only [ea8, sMn, sMx]; rfl))), (show a8 3 = (cSet (i 64) x1 x2 x3 (a 2, a 3, a 4, a 5, i 70, i 71, i 72)).2.1 from (by unfold cSet; simp only [if_neg bw9, if_neg bw10, if_neg bw11, if_pos bw12, if_pos bw13]; first | done | rfl | (simp only [fa8 3 (by decide), sMn, sMx]; done) | (simp only [fa8 3 (by decide), sMn, sMx]; rfl))), (show a8 4 = (cSet (i 64) x1 x2 x3 (a 2, a 3, a 4, a 5, i 70, i 71, i 72)).2.2.1 from (by unfold cSet; simp only [if_neg bw9, if_neg bw10, if_neg bw11, if_pos bw12, if_pos bw13]; first | done | rfl | (simp only [fa8 4 (by decide), sMn, sMx]; done) | (simp only [fa8 4 (by decide), sMn, sMx]; rfl))), (show a8 5 = (cSet (i 64) x1 x2 x3 (a 2, a 3, a 4, a 5, i 70, i 71, i 72)).2.2.2.1 from (by unfold cSet; simp only [if_neg bw9, if_neg bw10, if_neg bw11, if_pos bw12, if_pos bw13]; first | done | rfl | (simp only [fa8 5 (by decide), sMn, sMx]; done) | (simp only [fa8 5 (by decide), sMn, sMx]; rfl))), (show i 70 = (cSet (i 64) x1 x2 x3 (a 2, a 3, a 4, a 5, i 70, i 71, i 72)).2.2.2.2.1 from (by unfold cSet; simp only [if_neg bw9, if_neg bw10, if_neg bw11, if_pos bw12, if_pos bw13]; first | done | rfl | (simp only [sMn, sMx]; done) | (simp only [sMn, sMx]; rfl))), (show i 71 = (cSet (i 64) x1 x2 x3 (a 2, a 3, a 4, a 5, i 70, i 71, i 72)).2.2.2.2.2.1 from (by unfold cSet; simp only [if_neg bw9, if_neg bw10, if_neg bw11, if_pos bw12, if_pos bw13]; first | done | rfl | (simp only [sMn, sMx]; done) | (simp only [sMn, sMx]; rfl))), (show i 72 = (cSet (i 64) x1 x2 x3 (a 2, a 3, a 4, a 5, i 70, i 71, i 72)).2.2.2.2.2.2 from (by unfold cSet; simp only [if_neg bw9, if_neg bw10, if_neg bw11, if_pos bw12, if_pos bw13]; first | done | rfl | (simp only [sMn, sMx]; done) | (simp only [sMn, sMx]; rfl)))⟩⟩)
          ·
            subst eg6
            have z14 : x2.toInt = 1 := hg6
            refine fo_goS mi_k28 fz28_53_2_55 [.int x3, .int x1, .ref 3] rfl ?_
            refine ko_iast3 mi_k28.1 (n := 8) (c := 8) (ax := (0, 0, 0, 0, 0)) (mi_k28.2 _ _ (by rfl)) (by rfl) (ksG3 _ _ _ _) (ksA3 _ _ _ _) (hG.I.2.1 3) rfl (ou16 z5.1) (ou17 fi_64.2 z5.2) ?_
            intro a15 ea15 fa15
            have hJ15 := kG_a3 hG 3 rfl ea15 fa15 (kd_bd _)
            have bw16 : ¬ (x2.toInt = 4) := (ou22 z14)
            have bw17 : ¬ (x2.toInt = 5) := (ou23 z14)
            have bw18 : ¬ (x2.toInt = 6) := (ou24 z14)
            have bw19 : ((0 : Int) ≤ x1.toInt) ∧ (x1.toInt < (i 64).toInt) := (ou21 z5.1 z5.2)
            have bw20 : ¬ (x2.toInt = 0) := (ou25 z14)
            have bw21 : x2.toInt = 1 := (ou12 z14)
            exact ft_ret mi_k28 (by rfl) (hP  _ _ _ _ hJ15 ⟨trivial, ⟨(show a15 2 = (cSet (i 64) x1 x2 x3 (a 2, a 3, a 4, a 5, i 70, i 71, i 72)).1 from (by unfold cSet; simp only [if_neg bw16, if_neg bw17, if_neg bw18, if_pos bw19, if_neg bw20, if_pos bw21]; first | done | rfl | (simp only [fa15 2 (by decide), sMn, sMx]; done) | (simp only [fa15 2 (by decide), sMn, sMx]; rfl))), (show a15 3 = (cSet (i 64) x1 x2 x3 (a 2, a 3, a 4, a 5, i 70, i 71, i 72)).2.1 from (by unfold cSet; simp only [if_neg bw16, if_neg bw17, if_neg bw18, if_pos bw19, if_neg bw20, if_pos bw21]; first | done | rfl | (simp only [ea15, sMn, sMx]; done) | (simp only [ea15, sMn, sMx]; rfl))), (show a15 4 = (cSet (i 64) x1 x2 x3 (a 2, a 3, a 4, a 5, i 70, i 71, i 72)).2.2.1 from (by unfold cSet; simp only [if_neg bw16, if_neg bw17, if_neg bw18, if_pos bw19, if_neg bw20, if_pos bw21]; first | done | rfl | (simp only [fa15 4 (by decide), sMn, sMx]; done) | (simp only [fa15 4 (by decide), sMn, sMx]; rfl))), (show a15 5 = (cSet (i 64) x1 x2 x3 (a 2, a 3, a 4, a 5, i 70, i 71, i 72)).2.2.2.1 from (by unfold cSet; simp only [if_neg bw16, if_neg bw17, if_neg bw18, if_pos bw19, if_neg bw20, if_pos bw21]; first | done | rfl | (simp only [fa15 5 (by decide), sMn, sMx]; done) | (simp only [fa15 5 (by decide), sMn, sMx]; rfl))), (show i 70 = (cSet (i 64) x1 x2 x3 (a 2, a 3, a 4, a 5, i 70, i 71, i 72)).2.2.2.2.1 from (by unfold cSet; simp only [if_neg bw16, if_neg bw17, if_neg bw18, if_pos bw19, if_neg bw20, if_pos bw21]; first | done | rfl | (simp only [sMn, sMx]; done) | (simp only [sMn, sMx]; rfl))), (show i 71 = (cSet (i 64) x1 x2 x3 (a 2, a 3, a 4, a 5, i 70, i 71, i 72)).2.2.2.2.2.1 from (by unfold cSet; simp only [if_neg bw16, if_neg bw17, if_neg bw18, if_pos bw19, if_neg bw20, if_pos bw21]; first | done | rfl | (simp only [sMn, sMx]; done) | (simp only [sMn, sMx]; rfl))), (show i 72 = (cSet (i 64) x1 x2 x3 (a 2, a 3, a 4, a 5, i 70, i 71, i 72)).2.2.2.2.2.2 from (by unfold cSet; simp only [if_neg bw16, if_neg bw17, if_neg bw18, if_pos bw19, if_neg bw20, if_pos bw21]; first | done | rfl | (simp only [sMn, sMx]; done) | (simp only [sMn, sMx]; rfl)))⟩⟩)
          ·
            subst eg6
            have z22 : x2.toInt = 2 := hg6
            refine fo_goS mi_k28 fz28_53_2_55 [.int x3, .int x1, .ref 4] rfl ?_
            refine ko_iast3 mi_k28.1 (n := 8) (c := 8) (ax := (0, 0, 0, 0, 0)) (mi_k28.2 _ _ (by rfl)) (by rfl) (ksG4 _ _ _ _) (ksA4 _ _ _ _) (hG.I.2.1 4) rfl (ou16 z5.1) (ou17 fi_64.2 z5.2) ?_
            intro a23 ea23 fa23
            have hJ23 := kG_a3 hG 4 rfl ea23 fa23 (kd_bd _)
            have bw24 : ¬ (x2.toInt = 4) := (ou26 z22)
            have bw25 : ¬ (x2.toInt = 5) := (ou27 z22)
            have bw26 : ¬ (x2.toInt = 6) := (ou28 z22)
            have bw27 : ((0 : Int) ≤ x1.toInt) ∧ (x1.toInt < (i 64).toInt) := (ou21 z5.1 z5.2)
            have bw28 : ¬ (x2.toInt = 0) := (ou29 z22)
            have bw29 : ¬ (x2.toInt = 1) := (ou30 z22)
            have bw30 : x2.toInt = 2 := (ou13 z22)
            exact ft_ret mi_k28 (by rfl) (hP  _ _ _ _ hJ23 ⟨trivial, ⟨(show a23 2 = (cSet (i 64) x1 x2 x3 (a 2, a 3, a 4, a 5, i 70, i 71, i 72)).1 from (by unfold cSet; simp only [if_neg bw24, if_neg bw25, if_neg bw26, if_pos bw27, if_neg bw28, if_neg bw29, if_pos bw30]; first | done | rfl | (simp only [fa23 2 (by decide), sMn, sMx]; done) | (simp only [fa23 2 (by decide), sMn, sMx]; rfl))), (show a23 3 = (cSet (i 64) x1 x2 x3 (a 2, a 3, a 4, a 5, i 70, i 71, i 72)).2.1 from (by unfold cSet; simp only [if_neg bw24, if_neg bw25, if_neg bw26, if_pos bw27, if_neg bw28, if_neg bw29, if_pos bw30]; first | done | rfl | (simp only [fa23 3 (by decide), sMn, sMx]; done) | (simp only [fa23 3 (by decide), sMn, sMx]; rfl))), (show a23 4 = (cSet (i 64) x1 x2 x3 (a 2, a 3, a 4, a 5, i 70, i 71, i 72)).2.2.1 from (by unfold cSet; simp only [if_neg bw24, if_neg bw25, if_neg bw26, if_pos bw27, if_neg bw28, if_neg bw29, if_pos bw30]; first | done | rfl | (simp only [ea23, sMn, sMx]; done) | (simp only [ea23, sMn, sMx]; rfl))), (show a23 5 = (cSet (i 64) x1 x2 x3 (a 2, a 3, a 4, a 5, i 70, i 71, i 72)).2.2.2.1 from (by unfold cSet; simp only [if_neg bw24, if_neg bw25, if_neg bw26, if_pos bw27, if_neg bw28, if_neg bw29, if_pos bw30]; first | done | rfl | (simp only [fa23 5 (by decide), sMn, sMx]; done) | (simp only [fa23 5 (by decide), sMn, sMx]; rfl))), (show i 70 = (cSet (i 64) x1 x2 x3 (a 2, a 3, a 4, a 5, i 70, i 71, i 72)).2.2.2.2.1 from (by unfold cSet; simp only [if_neg bw24, if_neg bw25, if_neg bw26, if_pos bw27, if_neg bw28, if_neg bw29, if_pos bw30]; first | done | rfl | (simp only [sMn, sMx]; done) | (simp only [sMn, sMx]; rfl))), (show i 71 = (cSet (i 64) x1 x2 x3 (a 2, a 3, a 4, a 5, i 70, i 71, i 72)).2.2.2.2.2.1 from (by unfold cSet; simp only [if_neg bw24, if_neg bw25, if_neg bw26, if_pos bw27, if_neg bw28, if_neg bw29, if_pos bw30]; first | done | rfl | (simp only [sMn, sMx]; done) | (simp only [sMn, sMx]; rfl))), (show i 72 = (cSet (i 64) x1 x2 x3 (a 2, a 3, a 4, a 5, i 70, i 71, i 72)).2.2.2.2.2.2 from (by unfold cSet; simp only [if_neg bw24, if_neg bw25, if_neg bw26, if_pos bw27, if_neg bw28, if_neg bw29, if_pos bw30]; first | done | rfl | (simp only [sMn, sMx]; done) | (simp only [sMn, sMx]; rfl)))⟩⟩)
          ·
            subst eg6
            have z31 : (x2.toInt ≠ 0) ∧ (x2.toInt ≠ 1) ∧ (x2.toInt ≠ 2) := hg6
            refine fo_goS mi_k28 fz28_53_2_55 [.int x3, .int x1, .ref 5] rfl ?_
            refine ko_iast3 mi_k28.1 (n := 8) (c := 8) (ax := (0, 0, 0, 0, 0)) (mi_k28.2 _ _ (by rfl)) (by rfl) (ksG5 _ _ _ _) (ksA5 _ _ _ _) (hG.I.2.1 5) rfl (ou16 z5.1) (ou17 fi_64.2 z5.2) ?_
            intro a32 ea32 fa32
            have hJ32 := kG_a3 hG 5 rfl ea32 fa32 (kd_bd _)
            have bw33 : ¬ (x2.toInt = 4) := (ou38 c1 kou4)
            have bw34 : ¬ (x2.toInt = 5) := (ou39 c1 c2 kou4 kou5)
            have bw35 : ¬ (x2.toInt = 6) := (ou40 c1 c2 c3 kou4 kou5 kou6)
            have bw36 : ((0 : Int) ≤ x1.toInt) ∧ (x1.toInt < (i 64).toInt) := (ou21 z5.1 z5.2)
            have bw37 : ¬ (x2.toInt = 0) := (ou34 z31.1)
            have bw38 : ¬ (x2.toInt = 1) := (ou35 z31.1 z31.2.1)
            have bw39 : ¬ (x2.toInt = 2) := (ou36 z31.1 z31.2.1 z31.2.2)
            exact ft_ret mi_k28 (by rfl) (hP  _ _ _ _ hJ32 ⟨trivial, ⟨(show a32 2 = (cSet (i 64) x1 x2 x3 (a 2, a 3, a 4, a 5, i 70, i 71, i 72)).1 from (by unfold cSet; simp only [if_neg bw33, if_neg bw34, if_neg bw35, if_pos bw36, if_neg bw37, if_neg bw38, if_neg bw39]; first | done | rfl | (simp only [fa32 2 (by decide), sMn, sMx]; done) | (simp only [fa32 2 (by decide), sMn, sMx]; rfl))), (show a32 3 = (cSet (i 64) x1 x2 x3 (a 2, a 3, a 4, a 5, i 70, i 71, i 72)).2.1 from (by unfold cSet; simp only [if_neg bw33, if_neg bw34, if_neg bw35, if_pos bw36, if_neg bw37, if_neg bw38, if_neg bw39]; first | done | rfl | (simp only [fa32 3 (by decide), sMn, sMx]; done) | (simp only [fa32 3 (by decide), sMn, sMx]; rfl))), (show a32 4 = (cSet (i 64) x1 x2 x3 (a 2, a 3, a 4, a 5, i 70, i 71, i 72)).2.2.1 from (by unfold cSet; simp only [if_neg bw33, if_neg bw34, if_neg bw35, if_pos bw36, if_neg bw37, if_neg bw38, if_neg bw39]; first | done | rfl | (simp only [fa32 4 (by decide), sMn, sMx]; done) | (simp only [fa32 4 (by decide), sMn, sMx]; rfl))), (show a32 5 = (cSet (i 64) x1 x2 x3 (a 2, a 3, a 4, a 5, i 70, i 71, i 72)).2.2.2.1 from (by unfold cSet; simp only [if_neg bw33, if_neg bw34, if_neg bw35, if_pos bw36, if_neg bw37, if_neg bw38, if_neg bw39]; first | done | rfl | (simp only [ea32, sMn, sMx]; done) | (simp only [ea32, sMn, sMx]; rfl))), (show i 70 = (cSet (i 64) x1 x2 x3 (a 2, a 3, a 4, a 5, i 70, i 71, i 72)).2.2.2.2.1 from (by unfold cSet; simp only [if_neg bw33, if_neg bw34, if_neg bw35, if_pos bw36, if_neg bw37, if_neg bw38, if_neg bw39]; first | done | rfl | (simp only [sMn, sMx]; done) | (simp only [sMn, sMx]; rfl))), (show i 71 = (cSet (i 64) x1 x2 x3 (a 2, a 3, a 4, a 5, i 70, i 71, i 72)).2.2.2.2.2.1 from (by unfold cSet; simp only [if_neg bw33, if_neg bw34, if_neg bw35, if_pos bw36, if_neg bw37, if_neg bw38, if_neg bw39]; first | done | rfl | (simp only [sMn, sMx]; done) | (simp only [sMn, sMx]; rfl))), (show i 72 = (cSet (i 64) x1 x2 x3 (a 2, a 3, a 4, a 5, i 70, i 71, i 72)).2.2.2.2.2.2 from (by unfold cSet; simp only [if_neg bw33, if_neg bw34, if_neg bw35, if_pos bw36, if_neg bw37, if_neg bw38, if_neg bw39]; first | done | rfl | (simp only [sMn, sMx]; done) | (simp only [sMn, sMx]; rfl)))⟩⟩)
        ·
          subst eg4
          have z40 : ¬ (((0 : Int) ≤ x1.toInt) ∧ (x1.toInt < (i 64).toInt)) := hg4
          first | refine ft_goS mi_k28 1 56 [] (by rfl) ?_
          have bw41 : ¬ (x2.toInt = 4) := (ou38 c1 kou4)
          have bw42 : ¬ (x2.toInt = 5) := (ou39 c1 c2 kou4 kou5)
          have bw43 : ¬ (x2.toInt = 6) := (ou40 c1 c2 c3 kou4 kou5 kou6)
          have bw44 : ¬ (((0 : Int) ≤ x1.toInt) ∧ (x1.toInt < (i 64).toInt)) := (ou37 z40)
          exact ft_ret mi_k28 (by rfl) (hP  _ _ _ _ hG ⟨trivial, ⟨(show a 2 = (cSet (i 64) x1 x2 x3 (a 2, a 3, a 4, a 5, i 70, i 71, i 72)).1 from (by unfold cSet; simp only [if_neg bw41, if_neg bw42, if_neg bw43, if_neg bw44]; first | done | rfl | (simp only [sMn, sMx]; done) | (simp only [sMn, sMx]; rfl))), (show a 3 = (cSet (i 64) x1 x2 x3 (a 2, a 3, a 4, a 5, i 70, i 71, i 72)).2.1 from (by unfold cSet; simp only [if_neg bw41, if_neg bw42, if_neg bw43, if_neg bw44]; first | done | rfl | (simp only [sMn, sMx]; done) | (simp only [sMn, sMx]; rfl))), (show a 4 = (cSet (i 64) x1 x2 x3 (a 2, a 3, a 4, a 5, i 70, i 71, i 72)).2.2.1 from (by unfold cSet; simp only [if_neg bw41, if_neg bw42, if_neg bw43, if_neg bw44]; first | done | rfl | (simp only [sMn, sMx]; done) | (simp only [sMn, sMx]; rfl))), (show a 5 = (cSet (i 64) x1 x2 x3 (a 2, a 3, a 4, a 5, i 70, i 71, i 72)).2.2.2.1 from (by unfold cSet; simp only [if_neg bw41, if_neg bw42, if_neg bw43, if_neg bw44]; first | done | rfl | (simp only [sMn, sMx]; done) | (simp only [sMn, sMx]; rfl))), (show i 70 = (cSet (i 64) x1 x2 x3 (a 2, a 3, a 4, a 5, i 70, i 71, i 72)).2.2.2.2.1 from (by unfold cSet; simp only [if_neg bw41, if_neg bw42, if_neg bw43, if_neg bw44]; first | done | rfl | (simp only [sMn, sMx]; done) | (simp only [sMn, sMx]; rfl))), (show i 71 = (cSet (i 64) x1 x2 x3 (a 2, a 3, a 4, a 5, i 70, i 71, i 72)).2.2.2.2.2.1 from (by unfold cSet; simp only [if_neg bw41, if_neg bw42, if_neg bw43, if_neg bw44]; first | done | rfl | (simp only [sMn, sMx]; done) | (simp only [sMn, sMx]; rfl))), (show i 72 = (cSet (i 64) x1 x2 x3 (a 2, a 3, a 4, a 5, i 70, i 71, i 72)).2.2.2.2.2.2 from (by unfold cSet; simp only [if_neg bw41, if_neg bw42, if_neg bw43, if_neg bw44]; first | done | rfl | (simp only [sMn, sMx]; done) | (simp only [sMn, sMx]; rfl)))⟩⟩)
      ·
        have c45 : x2.toInt = (6 : Int32).toInt := kd_neF c; clear c
        have hJ46 := kG_i hG 72 rfl (v := x3) (kd_bd _)
        first | refine fo_goI mi_k28 fz28_5_4_56 [] (ku i 72 x3) (by rfl) ?_ | refine fo_goI mi_k28 fz28_18_4_56 [] (ku i 72 x3) (by rfl) ?_ | refine fo_goI mi_k28 fz28_32_4_56 [] (ku i 72 x3) (by rfl) ?_ | refine ft_goS mi_k28 4 56 [] (by rfl) ?_ | refine ft_go mi_k28 4 56 [(0, .ref 1), (1, .int x1), (2, .int x2), (3, .int x3)] [] (ku i 72 x3) a q r (by rfl) ?_
        have bw47 : ¬ (x2.toInt = 4) := (ou41 c45 kou6)
        have bw48 : ¬ (x2.toInt = 5) := (ou42 c45 kou6)
        have bw49 : x2.toInt = 6 := (ou43 c45 kou6)
        exact ft_ret mi_k28 (by rfl) (hP  _ _ _ _ hJ46 ⟨trivial, ⟨(show a 2 = (cSet (i 64) x1 x2 x3 (a 2, a 3, a 4, a 5, i 70, i 71, i 72)).1 from (by unfold cSet; simp only [if_neg bw47, if_neg bw48, if_pos bw49]; first | done | rfl | (simp only [sMn, sMx]; done) | (simp only [sMn, sMx]; rfl))), (show a 3 = (cSet (i 64) x1 x2 x3 (a 2, a 3, a 4, a 5, i 70, i 71, i 72)).2.1 from (by unfold cSet; simp only [if_neg bw47, if_neg bw48, if_pos bw49]; first | done | rfl | (simp only [sMn, sMx]; done) | (simp only [sMn, sMx]; rfl))), (show a 4 = (cSet (i 64) x1 x2 x3 (a 2, a 3, a 4, a 5, i 70, i 71, i 72)).2.2.1 from (by unfold cSet; simp only [if_neg bw47, if_neg bw48, if_pos bw49]; first | done | rfl | (simp only [sMn, sMx]; done) | (simp only [sMn, sMx]; rfl))), (show a 5 = (cSet (i 64) x1 x2 x3 (a 2, a 3, a 4, a 5, i 70, i 71, i 72)).2.2.2.1 from (by unfold cSet; simp only [if_neg bw47, if_neg bw48, if_pos bw49]; first | done | rfl | (simp only [sMn, sMx]; done) | (simp only [sMn, sMx]; rfl))), (show i 70 = (cSet (i 64) x1 x2 x3 (a 2, a 3, a 4, a 5, i 70, i 71, i 72)).2.2.2.2.1 from (by unfold cSet; simp only [if_neg bw47, if_neg bw48, if_pos bw49]; first | done | rfl | (simp only [sMn, sMx]; done) | (simp only [sMn, sMx]; rfl))), (show i 71 = (cSet (i 64) x1 x2 x3 (a 2, a 3, a 4, a 5, i 70, i 71, i 72)).2.2.2.2.2.1 from (by unfold cSet; simp only [if_neg bw47, if_neg bw48, if_pos bw49]; first | done | rfl | (simp only [sMn, sMx]; done) | (simp only [sMn, sMx]; rfl))), (show x3 = (cSet (i 64) x1 x2 x3 (a 2, a 3, a 4, a 5, i 70, i 71, i 72)).2.2.2.2.2.2 from (by unfold cSet; simp only [if_neg bw47, if_neg bw48, if_pos bw49]; first | done | rfl | (simp only [sMn, sMx]; done) | (simp only [sMn, sMx]; rfl)))⟩⟩)
    ·
      have c50 : x2.toInt = (5 : Int32).toInt := kd_neF c; clear c
      have hJ51 := kG_i hG 71 rfl (v := x3) (kd_bd _)
      first | refine fo_goI mi_k28 fz28_5_4_56 [] (ku i 71 x3) (by rfl) ?_ | refine fo_goI mi_k28 fz28_18_4_56 [] (ku i 71 x3) (by rfl) ?_ | refine fo_goI mi_k28 fz28_32_4_56 [] (ku i 71 x3) (by rfl) ?_ | refine ft_goS mi_k28 4 56 [] (by rfl) ?_ | refine ft_go mi_k28 4 56 [(0, .ref 1), (1, .int x1), (2, .int x2), (3, .int x3)] [] (ku i 71 x3) a q r (by rfl) ?_
      have bw52 : ¬ (x2.toInt = 4) := (ou44 c50 kou5)
      have bw53 : x2.toInt = 5 := (ou45 c50 kou5)
      exact ft_ret mi_k28 (by rfl) (hP  _ _ _ _ hJ51 ⟨trivial, ⟨(show a 2 = (cSet (i 64) x1 x2 x3 (a 2, a 3, a 4, a 5, i 70, i 71, i 72)).1 from (by unfold cSet; simp only [if_neg bw52, if_pos bw53]; first | done | rfl | (simp only [sMn, sMx]; done) | (simp only [sMn, sMx]; rfl))), (show a 3 = (cSet (i 64) x1 x2 x3 (a 2, a 3, a 4, a 5, i 70, i 71, i 72)).2.1 from (by unfold cSet; simp only [if_neg bw52, if_pos bw53]; first | done | rfl | (simp only [sMn, sMx]; done) | (simp only [sMn, sMx]; rfl))), (show a 4 = (cSet (i 64) x1 x2 x3 (a 2, a 3, a 4, a 5, i 70, i 71, i 72)).2.2.1 from (by unfold cSet; simp only [if_neg bw52, if_pos bw53]; first | done | rfl | (simp only [sMn, sMx]; done) | (simp only [sMn, sMx]; rfl))), (show a 5 = (cSet (i 64) x1 x2 x3 (a 2, a 3, a 4, a 5, i 70, i 71, i 72)).2.2.2.1 from (by unfold cSet; simp only [if_neg bw52, if_pos bw53]; first | done | rfl | (simp only [sMn, sMx]; done) | (simp only [sMn, sMx]; rfl))), (show i 70 = (cSet (i 64) x1 x2 x3 (a 2, a 3, a 4, a 5, i 70, i 71, i 72)).2.2.2.2.1 from (by unfold cSet; simp only [if_neg bw52, if_pos bw53]; first | done | rfl | (simp only [sMn, sMx]; done) | (simp only [sMn, sMx]; rfl))), (show x3 = (cSet (i 64) x1 x2 x3 (a 2, a 3, a 4, a 5, i 70, i 71, i 72)).2.2.2.2.2.1 from (by unfold cSet; simp only [if_neg bw52, if_pos bw53]; first | done | rfl | (simp only [sMn, sMx]; done) | (simp only [sMn, sMx]; rfl))), (show i 72 = (cSet (i 64) x1 x2 x3 (a 2, a 3, a 4, a 5, i 70, i 71, i 72)).2.2.2.2.2.2 from (by unfold cSet; simp only [if_neg bw52, if_pos bw53]; first | done | rfl | (simp only [sMn, sMx]; done) | (simp only [sMn, sMx]; rfl)))⟩⟩)
  ·
    have c54 : x2.toInt = (4 : Int32).toInt := kd_neF c; clear c
    have hJ55 := kG_i hG 70 rfl (v := x3) (kd_bd _)
    first | refine fo_goI mi_k28 fz28_5_4_56 [] (ku i 70 x3) (by rfl) ?_ | refine fo_goI mi_k28 fz28_18_4_56 [] (ku i 70 x3) (by rfl) ?_ | refine fo_goI mi_k28 fz28_32_4_56 [] (ku i 70 x3) (by rfl) ?_ | refine ft_goS mi_k28 4 56 [] (by rfl) ?_ | refine ft_go mi_k28 4 56 [(0, .ref 1), (1, .int x1), (2, .int x2), (3, .int x3)] [] (ku i 70 x3) a q r (by rfl) ?_
    have bw56 : x2.toInt = 4 := (ou46 c54 kou4)
    exact ft_ret mi_k28 (by rfl) (hP  _ _ _ _ hJ55 ⟨trivial, ⟨(show a 2 = (cSet (i 64) x1 x2 x3 (a 2, a 3, a 4, a 5, i 70, i 71, i 72)).1 from (by unfold cSet; simp only [if_pos bw56]; first | done | rfl | (simp only [sMn, sMx]; done) | (simp only [sMn, sMx]; rfl))), (show a 3 = (cSet (i 64) x1 x2 x3 (a 2, a 3, a 4, a 5, i 70, i 71, i 72)).2.1 from (by unfold cSet; simp only [if_pos bw56]; first | done | rfl | (simp only [sMn, sMx]; done) | (simp only [sMn, sMx]; rfl))), (show a 4 = (cSet (i 64) x1 x2 x3 (a 2, a 3, a 4, a 5, i 70, i 71, i 72)).2.2.1 from (by unfold cSet; simp only [if_pos bw56]; first | done | rfl | (simp only [sMn, sMx]; done) | (simp only [sMn, sMx]; rfl))), (show a 5 = (cSet (i 64) x1 x2 x3 (a 2, a 3, a 4, a 5, i 70, i 71, i 72)).2.2.2.1 from (by unfold cSet; simp only [if_pos bw56]; first | done | rfl | (simp only [sMn, sMx]; done) | (simp only [sMn, sMx]; rfl))), (show x3 = (cSet (i 64) x1 x2 x3 (a 2, a 3, a 4, a 5, i 70, i 71, i 72)).2.2.2.2.1 from (by unfold cSet; simp only [if_pos bw56]; first | done | rfl | (simp only [sMn, sMx]; done) | (simp only [sMn, sMx]; rfl))), (show i 71 = (cSet (i 64) x1 x2 x3 (a 2, a 3, a 4, a 5, i 70, i 71, i 72)).2.2.2.2.2.1 from (by unfold cSet; simp only [if_pos bw56]; first | done | rfl | (simp only [sMn, sMx]; done) | (simp only [sMn, sMx]; rfl))), (show i 72 = (cSet (i 64) x1 x2 x3 (a 2, a 3, a 4, a 5, i 70, i 71, i 72)).2.2.2.2.2.2 from (by unfold cSet; simp only [if_pos bw56]; first | done | rfl | (simp only [sMn, sMx]; done) | (simp only [sMn, sMx]; rfl)))⟩⟩)
noncomputable def yw6_89 : kW := ([5701], [90, 91, 92, 93], [], [])
set_option maxRecDepth 100000 in
theorem ke6_89 {i : Nat → Int32} {a : Nat → List Int32} {q : Nat → List Int64} {r : Nat → Nat} (hI : kI i a q) (hr : kr r)  : km 1 6 [.ref 89] (ks i a q r) (kVN yw6_89 i a q r (fun i1 a1 q1 r1 => ((i1 5701).toInt = 39) ∧ (a1 90 = mi_cpy (a 90) (a 90) (1 : Int32).toNatClampNeg (0 : Int32).toNatClampNeg (39 : Int32).toNatClampNeg ∧ a1 91 = mi_cpy (a 91) (a 91) (1 : Int32).toNatClampNeg (0 : Int32).toNatClampNeg (39 : Int32).toNatClampNeg ∧ a1 92 = mi_cpy (a 92) (a 92) (1 : Int32).toNatClampNeg (0 : Int32).toNatClampNeg (39 : Int32).toNatClampNeg ∧ a1 93 = mi_cpy (a 93) (a 93) (1 : Int32).toNatClampNeg (0 : Int32).toNatClampNeg (39 : Int32).toNatClampNeg ∧ i1 5701 = 39))) := by
  have hG := kG_self yw6_89 hI hr
  refine km_ofN (q := (mi_h6, mi_c6)) rfl (by decide) (Nat.le_of_ble_eq_true rfl) ?_
  intro P hP
  have hJ1 := kG_i hG 5701 rfl (v := 39) ⟨(ou47 kou39), (ou48 kou39)⟩
  first | refine fo_go mi_k6 fz6_0_11_20 [(0, .ref 89)] [.int 39, .int 0, .ref 90, .int 1, .ref 90] (ku i 5701 39) a q r (by rfl) ?_ | refine ft_go mi_k6 11 20 [(0, .ref 89)] [.int 39, .int 0, .ref 90, .int 1, .ref 90] (ku i 5701 39) a q r (by rfl) ?_
  refine ko_copyI3 mi_k6.1 (n := 40) (c := 40) (m := 40) (b := 40) (mi_k6.2 _ _ (by rfl)) (by rfl) (by rfl) (by rfl) (ksG90 _ _ _ _) (ksG90 _ _ _ _) (ksA90 _ _ _ _) (hJ1.I.2.1 90) rfl (hJ1.I.2.1 90) rfl (ou47 kou39) (ou49 kou1) (ou50 kou0) (ou51 kou1 kou39) (ou52 kou0 kou39) ?_
  intro a3 ea3 fa3
  have hJ3 := kG_al3 hJ1 90 rfl ea3 fa3 (kcpy_len2 (n := 40) (c := 40) (m := 40) (b := 40) (sp := 1) (dp := 0) (n1 := 39) (hJ1.I.2.1 90) rfl (hJ1.I.2.1 90) rfl (ou47 kou39) (ou49 kou1) (ou50 kou0) (ou51 kou1 kou39) (ou52 kou0 kou39)) (fun _ => kd_bd _)
  refine fo_goS mi_k6 fz6_23_8_37 [.int 39, .int 0, .ref 91, .int 1, .ref 91] rfl ?_
  refine ko_copyI3 mi_k6.1 (n := 40) (c := 40) (m := 40) (b := 40) (mi_k6.2 _ _ (by rfl)) (by rfl) (by rfl) (by rfl) (ksG91 _ _ _ _) (ksG91 _ _ _ _) (ksA91 _ _ _ _) (hJ3.I.2.1 91) rfl (hJ3.I.2.1 91) rfl (ou47 kou39) (ou49 kou1) (ou50 kou0) (ou51 kou1 kou39) (ou52 kou0 kou39) ?_
  intro a5 ea5 fa5
  have hJ5 := kG_al3 hJ3 91 rfl ea5 fa5 (kcpy_len2 (n := 40) (c := 40) (m := 40) (b := 40) (sp := 1) (dp := 0) (n1 := 39) (hJ3.I.2.1 91) rfl (hJ3.I.2.1 91) rfl (ou47 kou39) (ou49 kou1) (ou50 kou0) (ou51 kou1 kou39) (ou52 kou0 kou39)) (fun _ => kd_bd _)
  refine fo_goS mi_k6 fz6_40_8_54 [.int 39, .int 0, .ref 92, .int 1, .ref 92] rfl ?_
  refine ko_copyI3 mi_k6.1 (n := 40) (c := 40) (m := 40) (b := 40) (mi_k6.2 _ _ (by rfl)) (by rfl) (by rfl) (by rfl) (ksG92 _ _ _ _) (ksG92 _ _ _ _) (ksA92 _ _ _ _) (hJ5.I.2.1 92) rfl (hJ5.I.2.1 92) rfl (ou47 kou39) (ou49 kou1) (ou50 kou0) (ou51 kou1 kou39) (ou52 kou0 kou39) ?_
  intro a7 ea7 fa7
  have hJ7 := kG_al3 hJ5 92 rfl ea7 fa7 (kcpy_len2 (n := 40) (c := 40) (m := 40) (b := 40) (sp := 1) (dp := 0) (n1 := 39) (hJ5.I.2.1 92) rfl (hJ5.I.2.1 92) rfl (ou47 kou39) (ou49 kou1) (ou50 kou0) (ou51 kou1 kou39) (ou52 kou0 kou39)) (fun _ => kd_bd _)
  refine fo_goS mi_k6 fz6_57_8_71 [.int 39, .int 0, .ref 93, .int 1, .ref 93] rfl ?_
  refine ko_copyI3 mi_k6.1 (n := 40) (c := 40) (m := 40) (b := 40) (mi_k6.2 _ _ (by rfl)) (by rfl) (by rfl) (by rfl) (ksG93 _ _ _ _) (ksG93 _ _ _ _) (ksA93 _ _ _ _) (hJ7.I.2.1 93) rfl (hJ7.I.2.1 93) rfl (ou47 kou39) (ou49 kou1) (ou50 kou0) (ou51 kou1 kou39) (ou52 kou0 kou39) ?_
  intro a9 ea9 fa9
  have hJ9 := kG_al3 hJ7 93 rfl ea9 fa9 (kcpy_len2 (n := 40) (c := 40) (m := 40) (b := 40) (sp := 1) (dp := 0) (n1 := 39) (hJ7.I.2.1 93) rfl (hJ7.I.2.1 93) rfl (ou47 kou39) (ou49 kou1) (ou50 kou0) (ou51 kou1 kou39) (ou52 kou0 kou39)) (fun _ => kd_bd _)
  exact ft_ret mi_k6 (by rfl) (hP  _ _ _ _ hJ9 ⟨(ou53 kou39), ⟨(show a9 90 = mi_cpy (a 90) (a 90) (1 : Int32).toNatClampNeg (0 : Int32).toNatClampNeg (39 : Int32).toNatClampNeg from (by first | rfl | (simp only [fa9 90 (by decide), fa7 90 (by decide), fa5 90 (by decide), ea3, sMn, sMx]; done) | (simp only [fa9 90 (by decide), fa7 90 (by decide), fa5 90 (by decide), ea3, sMn, sMx]; rfl))), (show a9 91 = mi_cpy (a 91) (a 91) (1 : Int32).toNatClampNeg (0 : Int32).toNatClampNeg (39 : Int32).toNatClampNeg from (by first | rfl | (simp only [fa9 91 (by decide), fa7 91 (by decide), ea5, fa3 91 (by decide), sMn, sMx]; done) | (simp only [fa9 91 (by decide), fa7 91 (by decide), ea5, fa3 91 (by decide), sMn, sMx]; rfl))), (show a9 92 = mi_cpy (a 92) (a 92) (1 : Int32).toNatClampNeg (0 : Int32).toNatClampNeg (39 : Int32).toNatClampNeg from (by first | rfl | (simp only [fa9 92 (by decide), ea7, fa5 92 (by decide), fa3 92 (by decide), sMn, sMx]; done) | (simp only [fa9 92 (by decide), ea7, fa5 92 (by decide), fa3 92 (by decide), sMn, sMx]; rfl))), (show a9 93 = mi_cpy (a 93) (a 93) (1 : Int32).toNatClampNeg (0 : Int32).toNatClampNeg (39 : Int32).toNatClampNeg from (by first | rfl | (simp only [ea9, fa7 93 (by decide), fa5 93 (by decide), fa3 93 (by decide), sMn, sMx]; done) | (simp only [ea9, fa7 93 (by decide), fa5 93 (by decide), fa3 93 (by decide), sMn, sMx]; rfl))), (show (39 : Int32) = 39 from (by first | rfl | (simp only [sMn, sMx]; done) | (simp only [sMn, sMx]; rfl)))⟩⟩)
noncomputable def yw5_89 : kW := ([5700, 5701], [90, 91, 92, 93], [], [])
set_option maxRecDepth 100000 in
theorem ke5_89 {i : Nat → Int32} {a : Nat → List Int32} {q : Nat → List Int64} {r : Nat → Nat} (hI : kI i a q) (hr : kr r) (x1 : Int32) (x2 : Int32) (x3 : Int32) (x4 : Int32) : km 3 5 [.ref 89, .int x1, .int x2, .int x3, .int x4] (ks i a q r) (kVN yw5_89 i a q r (fun i1 a1 q1 r1 => (True) ∧ (a1 90 = (nAdd x1 x2 x3 x4 (a 90, a 91, a 92, a 93, i 5700, i 5701)).1 ∧ a1 91 = (nAdd x1 x2 x3 x4 (a 90, a 91, a 92, a 93, i 5700, i 5701)).2.1 ∧ a1 92 = (nAdd x1 x2 x3 x4 (a 90, a 91, a 92, a 93, i 5700, i 5701)).2.2.1 ∧ a1 93 = (nAdd x1 x2 x3 x4 (a 90, a 91, a 92, a 93, i 5700, i 5701)).2.2.2.1 ∧ i1 5700 = (nAdd x1 x2 x3 x4 (a 90, a 91, a 92, a 93, i 5700, i 5701)).2.2.2.2.1 ∧ i1 5701 = (nAdd x1 x2 x3 x4 (a 90, a 91, a 92, a 93, i 5700, i 5701)).2.2.2.2.2))) := by
  have hG := kG_self yw5_89 hI hr
  refine km_ofN (q := (mi_h5, mi_c5)) rfl (by decide) (Nat.le_of_ble_eq_true rfl) ?_
  intro P hP
  have fi_5701 : ((0 : Int) ≤ (i 5701).toInt) ∧ ((i 5701).toInt ≤ 40) := hG.I.1 5701
  refine ft_goL mi_k5 3 6 [(0, .ref 89), (1, .int x1), (2, .int x2), (3, .int x3), (4, .int x4)] [.int 40, .int (i 5701)] (by rfl) ?_
  refine ft_ifS mi_k5 (decide ((i 5701) < 40)) 13 9 [] (by rfl) (fun c => ?_) (fun c => ?_)
  ·
    have c1 : (i 5701).toInt < (40 : Int32).toInt := kd_lt c; clear c
    refine fo_goS mi_k5 fz5_13_5_22 [.int x1, .int (i 5701), .ref 90] rfl ?_
    refine ko_iast3 mi_k5.1 (n := 40) (c := 40) (ax := (0, 0, 0, 0, 0)) (mi_k5.2 _ _ (by rfl)) (by rfl) (ksG90 _ _ _ _) (ksA90 _ _ _ _) (hG.I.2.1 90) rfl (ou16 fi_5701.1) (ou54 c1 kou40) ?_
    intro a2 ea2 fa2
    have hJ2 := kG_a3 hG 90 rfl ea2 fa2 (kd_bd _)
    refine fo_goS mi_k5 fz5_23_5_32 [.int x2, .int (i 5701), .ref 91] rfl ?_
    refine ko_iast3 mi_k5.1 (n := 40) (c := 40) (ax := (0, 0, 0, 0, 0)) (mi_k5.2 _ _ (by rfl)) (by rfl) (ksG91 _ _ _ _) (ksA91 _ _ _ _) (hJ2.I.2.1 91) rfl (ou16 fi_5701.1) (ou54 c1 kou40) ?_
    intro a3 ea3 fa3
    have hJ3 := kG_a3 hJ2 91 rfl ea3 fa3 (kd_bd _)
    refine fo_goS mi_k5 fz5_33_5_42 [.int x3, .int (i 5701), .ref 92] rfl ?_
    refine ko_iast3 mi_k5.1 (n := 40) (c := 40) (ax := (0, 0, 0, 0, 0)) (mi_k5.2 _ _ (by rfl)) (by rfl) (ksG92 _ _ _ _) (ksA92 _ _ _ _) (hJ3.I.2.1 92) rfl (ou16 fi_5701.1) (ou54 c1 kou40) ?_
    intro a4 ea4 fa4
    have hJ4 := kG_a3 hJ3 92 rfl ea4 fa4 (kd_bd _)
    refine fo_goS mi_k5 fz5_43_5_53 [.int x4, .int (i 5701), .ref 93] rfl ?_
    refine ko_iast3 mi_k5.1 (n := 40) (c := 40) (ax := (0, 0, 0, 0, 0)) (mi_k5.2 _ _ (by rfl)) (by rfl) (ksG93 _ _ _ _) (ksA93 _ _ _ _) (hJ4.I.2.1 93) rfl (ou16 fi_5701.1) (ou54 c1 kou40) ?_
    intro a5 ea5 fa5
    have hJ5 := kG_a3 hJ4 93 rfl ea5 fa5 (kd_bd _)
    have s6 : ((i 5701) + 1).toInt = (i 5701).toInt + (1 : Int32).toInt := kd_add (ou55 fi_5701.1 kou1) (ou56 fi_5701.2 kou1)
    have hJ7 := kG_i hJ5 5701 rfl (v := ((i 5701) + 1)) ⟨(ou57 fi_5701.1 s6 kou1), (ou58 c1 s6 kou40 kou1)⟩
    have hJ8 := kG_i hJ7 5700 rfl (v := ((i 5701) + 1)) ⟨(ou57 fi_5701.1 s6 kou1), (ou58 c1 s6 kou40 kou1)⟩
    first | refine fo_goI mi_k5 fz5_54_10_72 [] (ku (ku i 5701 ((i 5701) + 1)) 5700 ((i 5701) + 1)) (by rfl) ?_ | refine ft_go mi_k5 10 72 [(0, .ref 89), (1, .int x1), (2, .int x2), (3, .int x3), (4, .int x4)] [] (ku (ku i 5701 ((i 5701) + 1)) 5700 ((i 5701) + 1)) a5 q r (by rfl) ?_
    have bw9 : ¬ ((40 : Int) ≤ (i 5701).toInt) := (ou59 c1 kou40)
    exact ft_ret mi_k5 (by rfl) (hP  _ _ _ _ hJ8 ⟨trivial, ⟨(show a5 90 = (nAdd x1 x2 x3 x4 (a 90, a 91, a 92, a 93, i 5700, i 5701)).1 from (by unfold nAdd; simp only [if_neg bw9]; first | done | rfl | (simp only [fa5 90 (by decide), fa4 90 (by decide), fa3 90 (by decide), ea2, sMn, sMx]; done) | (simp only [fa5 90 (by decide), fa4 90 (by decide), fa3 90 (by decide), ea2, sMn, sMx]; rfl))), (show a5 91 = (nAdd x1 x2 x3 x4 (a 90, a 91, a 92, a 93, i 5700, i 5701)).2.1 from (by unfold nAdd; simp only [if_neg bw9]; first | done | rfl | (simp only [fa5 91 (by decide), fa4 91 (by decide), ea3, fa2 91 (by decide), sMn, sMx]; done) | (simp only [fa5 91 (by decide), fa4 91 (by decide), ea3, fa2 91 (by decide), sMn, sMx]; rfl))), (show a5 92 = (nAdd x1 x2 x3 x4 (a 90, a 91, a 92, a 93, i 5700, i 5701)).2.2.1 from (by unfold nAdd; simp only [if_neg bw9]; first | done | rfl | (simp only [fa5 92 (by decide), ea4, fa3 92 (by decide), fa2 92 (by decide), sMn, sMx]; done) | (simp only [fa5 92 (by decide), ea4, fa3 92 (by decide), fa2 92 (by decide), sMn, sMx]; rfl))), (show a5 93 = (nAdd x1 x2 x3 x4 (a 90, a 91, a 92, a 93, i 5700, i 5701)).2.2.2.1 from (by unfold nAdd; simp only [if_neg bw9]; first | done | rfl | (simp only [ea5, fa4 93 (by decide), fa3 93 (by decide), fa2 93 (by decide), sMn, sMx]; done) | (simp only [ea5, fa4 93 (by decide), fa3 93 (by decide), fa2 93 (by decide), sMn, sMx]; rfl))), (show ((i 5701) + 1) = (nAdd x1 x2 x3 x4 (a 90, a 91, a 92, a 93, i 5700, i 5701)).2.2.2.2.1 from (by unfold nAdd; simp only [if_neg bw9]; first | done | rfl | (simp only [sMn, sMx]; done) | (simp only [sMn, sMx]; rfl))), (show ((i 5701) + 1) = (nAdd x1 x2 x3 x4 (a 90, a 91, a 92, a 93, i 5700, i 5701)).2.2.2.2.2 from (by unfold nAdd; simp only [if_neg bw9]; first | done | rfl | (simp only [sMn, sMx]; done) | (simp only [sMn, sMx]; rfl)))⟩⟩)
  ·
    have c10 : (40 : Int32).toInt ≤ (i 5701).toInt := kd_ltF c; clear c
    refine ft_goS mi_k5 1 10 [.ref 89] (by rfl) ?_
    refine ko_callN mi_k5.1 (pc := 10) (ls := [(0, .ref 89), (1, .int x1), (2, .int x2), (3, .int x3), (4, .int x4)]) (st := [.ref 89]) (h := ks i a q r) (i := (.invokevirtual 29, 3, 6, 0, 9, 0, 169)) (mi_k5.2 _ _ (by rfl)) (ft_invS mi_pq6 (by rfl)) (cy := mi_c6) mi_pq6 rfl (ke6_89 hG.I hG.R ) (by decide) ?_
    intro ig11 ag11 qg11 rg11 kg11 hg11
    have hGg11 := kG_call hG kg11 (by decide +kernel)
    obtain ⟨hg11, og11⟩ := hg11
    have fig11_5701 : ((0 : Int) ≤ (ig11 5701).toInt) ∧ ((ig11 5701).toInt ≤ 40) := hGg11.I.1 5701
    have z12 : (ig11 5701).toInt = 39 := hg11
    have q13 : ag11 90 = mi_cpy (a 90) (a 90) (1 : Int32).toNatClampNeg (0 : Int32).toNatClampNeg (39 : Int32).toNatClampNeg := og11.1
    have q14 : ag11 91 = mi_cpy (a 91) (a 91) (1 : Int32).toNatClampNeg (0 : Int32).toNatClampNeg (39 : Int32).toNatClampNeg := og11.2.1
    have q15 : ag11 92 = mi_cpy (a 92) (a 92) (1 : Int32).toNatClampNeg (0 : Int32).toNatClampNeg (39 : Int32).toNatClampNeg := og11.2.2.1
    have q16 : ag11 93 = mi_cpy (a 93) (a 93) (1 : Int32).toNatClampNeg (0 : Int32).toNatClampNeg (39 : Int32).toNatClampNeg := og11.2.2.2.1
    have q17 : ig11 5701 = 39 := og11.2.2.2.2
    refine fo_goS mi_k5 fz5_13_5_22 [.int x1, .int (ig11 5701), .ref 90] rfl ?_
    refine ko_iast3 mi_k5.1 (n := 40) (c := 40) (ax := (0, 0, 0, 0, 0)) (mi_k5.2 _ _ (by rfl)) (by rfl) (ksG90 _ _ _ _) (ksA90 _ _ _ _) (hGg11.I.2.1 90) rfl (ou47 z12) (ou60 z12) ?_
    intro a18 ea18 fa18
    have hJ18 := kG_a3 hGg11 90 rfl ea18 fa18 (kd_bd _)
    refine fo_goS mi_k5 fz5_23_5_32 [.int x2, .int (ig11 5701), .ref 91] rfl ?_
    refine ko_iast3 mi_k5.1 (n := 40) (c := 40) (ax := (0, 0, 0, 0, 0)) (mi_k5.2 _ _ (by rfl)) (by rfl) (ksG91 _ _ _ _) (ksA91 _ _ _ _) (hJ18.I.2.1 91) rfl (ou47 z12) (ou60 z12) ?_
    intro a19 ea19 fa19
    have hJ19 := kG_a3 hJ18 91 rfl ea19 fa19 (kd_bd _)
    refine fo_goS mi_k5 fz5_33_5_42 [.int x3, .int (ig11 5701), .ref 92] rfl ?_
    refine ko_iast3 mi_k5.1 (n := 40) (c := 40) (ax := (0, 0, 0, 0, 0)) (mi_k5.2 _ _ (by rfl)) (by rfl) (ksG92 _ _ _ _) (ksA92 _ _ _ _) (hJ19.I.2.1 92) rfl (ou47 z12) (ou60 z12) ?_
    intro a20 ea20 fa20
    have hJ20 := kG_a3 hJ19 92 rfl ea20 fa20 (kd_bd _)
    refine fo_goS mi_k5 fz5_43_5_53 [.int x4, .int (ig11 5701), .ref 93] rfl ?_
    refine ko_iast3 mi_k5.1 (n := 40) (c := 40) (ax := (0, 0, 0, 0, 0)) (mi_k5.2 _ _ (by rfl)) (by rfl) (ksG93 _ _ _ _) (ksA93 _ _ _ _) (hJ20.I.2.1 93) rfl (ou47 z12) (ou60 z12) ?_
    intro a21 ea21 fa21
    have hJ21 := kG_a3 hJ20 93 rfl ea21 fa21 (kd_bd _)
    have s22 : ((ig11 5701) + 1).toInt = (ig11 5701).toInt + (1 : Int32).toInt := kd_add (ou61 z12 kou1) (ou56 fig11_5701.2 kou1)
    have hJ23 := kG_i hJ21 5701 rfl (v := ((ig11 5701) + 1)) ⟨(ou62 s22 z12 kou1), (ou63 s22 z12 kou1)⟩
    have hJ24 := kG_i hJ23 5700 rfl (v := ((ig11 5701) + 1)) ⟨(ou62 s22 z12 kou1), (ou63 s22 z12 kou1)⟩
    first | refine fo_goI mi_k5 fz5_54_10_72 [] (ku (ku ig11 5701 ((ig11 5701) + 1)) 5700 ((ig11 5701) + 1)) (by rfl) ?_ | refine ft_go mi_k5 10 72 [(0, .ref 89), (1, .int x1), (2, .int x2), (3, .int x3), (4, .int x4)] [] (ku (ku ig11 5701 ((ig11 5701) + 1)) 5700 ((ig11 5701) + 1)) a21 qg11 rg11 (by rfl) ?_
    have bw25 : (40 : Int) ≤ (i 5701).toInt := (ou64 c10 kou40)
    exact ft_ret mi_k5 (by rfl) (hP  _ _ _ _ hJ24 ⟨trivial, ⟨(show a21 90 = (nAdd x1 x2 x3 x4 (a 90, a 91, a 92, a 93, i 5700, i 5701)).1 from (by unfold nAdd; simp only [if_pos bw25]; first | done | rfl | (simp only [fa21 90 (by decide), fa20 90 (by decide), fa19 90 (by decide), ea18, q13, q17, sMn, sMx]; done) | (simp only [fa21 90 (by decide), fa20 90 (by decide), fa19 90 (by decide), ea18, q13, q17, sMn, sMx]; rfl))), (show a21 91 = (nAdd x1 x2 x3 x4 (a 90, a 91, a 92, a 93, i 5700, i 5701)).2.1 from (by unfold nAdd; simp only [if_pos bw25]; first | done | rfl | (simp only [fa21 91 (by decide), fa20 91 (by decide), ea19, fa18 91 (by decide), q17, q14, sMn, sMx]; done) | (simp only [fa21 91 (by decide), fa20 91 (by decide), ea19, fa18 91 (by decide), q17, q14, sMn, sMx]; rfl))), (show a21 92 = (nAdd x1 x2 x3 x4 (a 90, a 91, a 92, a 93, i 5700, i 5701)).2.2.1 from (by unfold nAdd; simp only [if_pos bw25]; first | done | rfl | (simp only [fa21 92 (by decide), ea20, fa19 92 (by decide), q17, fa18 92 (by decide), q15, sMn, sMx]; done) | (simp only [fa21 92 (by decide), ea20, fa19 92 (by decide), q17, fa18 92 (by decide), q15, sMn, sMx]; rfl))), (show a21 93 = (nAdd x1 x2 x3 x4 (a 90, a 91, a 92, a 93, i 5700, i 5701)).2.2.2.1 from (by unfold nAdd; simp only [if_pos bw25]; first | done | rfl | (simp only [ea21, fa20 93 (by decide), q17, fa19 93 (by decide), fa18 93 (by decide), q16, sMn, sMx]; done) | (simp only [ea21, fa20 93 (by decide), q17, fa19 93 (by decide), fa18 93 (by decide), q16, sMn, sMx]; rfl))), (show ((ig11 5701) + 1) = (nAdd x1 x2 x3 x4 (a 90, a 91, a 92, a 93, i 5700, i 5701)).2.2.2.2.1 from (by unfold nAdd; simp only [if_pos bw25]; first | done | rfl | (simp only [q17, sMn, sMx]; done) | (simp only [q17, sMn, sMx]; rfl))), (show ((ig11 5701) + 1) = (nAdd x1 x2 x3 x4 (a 90, a 91, a 92, a 93, i 5700, i 5701)).2.2.2.2.2 from (by unfold nAdd; simp only [if_pos bw25]; first | done | rfl | (simp only [q17, sMn, sMx]; done) | (simp only [q17, sMn, sMx]; rfl)))⟩⟩)
set_option maxRecDepth 100000 in
theorem ke84_0 {i : Nat → Int32} {a : Nat → List Int32} {q : Nat → List Int64} {r : Nat → Nat} (hI : kI i a q) (hr : kr r) (x1 : Int32) (x2 : Int32) : km 7 84 [.ref 0, .int x1, .int x2] (ks i a q r) (kPI (ks i a q r) (fun v => (True) ∧ v = nOf (i 64) x1 x2 (a 2, a 3, a 4, a 5, i 70, i 71, i 72))) := by
  have hG := kG_self kW0 hI hr
  refine km_ofPI (q := (mi_h84, mi_c84)) rfl (by decide) (Nat.le_of_ble_eq_true rfl) ?_
  intro P hP
  refine ft_goL mi_k84 3 3 [(0, .ref 0), (1, .int x1), (2, .int x2)] [.int x2, .int x1, .ref 0] (by rfl) ?_
  refine ko_callPI mi_k84.1 (pc := 3) (ls := [(0, .ref 0), (1, .int x1), (2, .int x2)]) (st := [.int x2, .int x1, .ref 0]) (h := ks i a q r) (i := (.invokevirtual 95, 3, 125, 0, 9, 0, 161)) (mi_k84.2 _ _ (by rfl)) (ft_invS mi_pq125 (by rfl)) (cy := mi_c125) mi_pq125 rfl (kc125_0 hG.I hG.R x1 x2) (by decide) ?_
  intro vg1 hg1
  rcases hg1 with ⟨eg1, hg1⟩ | ⟨eg1, hg1⟩
  ·
    subst eg1
    have z2 : (((0 : Int) ≤ x2.toInt) ∧ (x2.toInt ≤ 3) ∧ ((0 : Int) ≤ x1.toInt) ∧ (x1.toInt < (i 64).toInt)) ∨ (((4 : Int) ≤ x2.toInt) ∧ (x2.toInt ≤ 6) ∧ (x1.toInt = 0)) := hg1
    refine fo_goS mi_k84 fz84_6_5_15 [.int x2, .int x1, .ref 1] rfl ?_
    refine ko_callPI mi_k84.1 (pc := 15) (ls := [(0, .ref 0), (1, .int x1), (2, .int x2)]) (st := [.int x2, .int x1, .ref 1]) (h := ks i a q r) (i := (.invokevirtual 98, 3, 27, 0, 9, 0, 164)) (mi_k84.2 _ _ (by rfl)) (ft_invS mi_pq27 (by rfl)) (cy := mi_c27) mi_pq27 rfl (ke27_1 hG.I hG.R x1 x2) (by decide) ?_
    intro vg3 hg3
    obtain ⟨hg3, og3⟩ := hg3
    have q4 : vg3 = cGet (i 64) x1 x2 (a 2, a 3, a 4, a 5, i 70, i 71, i 72) := og3
    first | refine ft_goS mi_k84 1 22 [.int vg3] (by rfl) ?_
    have bw5 : (((0 : Int) ≤ x2.toInt) ∧ (x2.toInt ≤ 3) ∧ ((0 : Int) ≤ x1.toInt) ∧ (x1.toInt < (i 64).toInt)) ∨ (((4 : Int) ≤ x2.toInt) ∧ (x2.toInt ≤ 6) ∧ (x1.toInt = 0)) := (ou74 z2)
    exact ft_ret mi_k84 (by rfl) (hP vg3 ⟨trivial, (show vg3 = nOf (i 64) x1 x2 (a 2, a 3, a 4, a 5, i 70, i 71, i 72) from (by unfold nOf; simp only [if_pos bw5]; first | done | rfl | (simp only [q4, sMn, sMx]; done) | (simp only [q4, sMn, sMx]; rfl)))⟩)
  ·
    subst eg1
    have fi_64 : ((0 : Int) ≤ (i 64).toInt) ∧ ((i 64).toInt ≤ 8) := hG.I.1 64
    have z6 : ¬ ((((0 : Int) ≤ x2.toInt) ∧ (x2.toInt ≤ 3) ∧ ((0 : Int) ≤ x1.toInt) ∧ (x1.toInt < (i 64).toInt)) ∨ (((4 : Int) ≤ x2.toInt) ∧ (x2.toInt ≤ 6) ∧ (x1.toInt = 0))) := hg1
    first | refine ft_goS mi_k84 2 22 [.int (-1)] (by rfl) ?_
    have bw7 : ¬ ((((0 : Int) ≤ x2.toInt) ∧ (x2.toInt ≤ 3) ∧ ((0 : Int) ≤ x1.toInt) ∧ (x1.toInt < (i 64).toInt)) ∨ (((4 : Int) ≤ x2.toInt) ∧ (x2.toInt ≤ 6) ∧ (x1.toInt = 0))) := (ou75 fi_64.1 z6)
    exact ft_ret mi_k84 (by rfl) (hP (-1) ⟨trivial, (show ((-1) : Int32) = nOf (i 64) x1 x2 (a 2, a 3, a 4, a 5, i 70, i 71, i 72) from (by unfold nOf; simp only [if_neg bw7]; first | done | rfl | (simp only [sMn, sMx]; done) | (simp only [sMn, sMx]; rfl)))⟩)
set_option maxRecDepth 100000 in
theorem ke126_l00 {i : Nat → Int32} {a : Nat → List Int32} {q : Nat → List Int64} {r : Nat → Nat} (hI : kI i a q) (hr : kr r) (x2 : Int32) : km 3 126 [.int 0, .int x2] (ks i a q r) (kPI (ks i a q r) (fun v => (v = 1 ∧ (((0 : Int) ≤ x2.toInt) ∧ (x2.toInt ≤ 999))) ∨ (v = 0 ∧ (¬ (((0 : Int) ≤ x2.toInt) ∧ (x2.toInt ≤ 999)))))) := by
  have hG := kG_self kW0 hI hr
  refine km_ofPI (q := (mi_h126, mi_c126)) rfl (by decide) (Nat.le_of_ble_eq_true rfl) ?_
  intro P hP
  refine fo_goL mi_k126 fz126_0_3_4 [(0, .int 0), (1, .int x2)] [.int 6, .int 0, .int 0] rfl ?_
  refine ko_callPI mi_k126.1 (pc := 4) (ls := [(0, .int 0), (1, .int x2)]) (st := [.int 6, .int 0, .int 0]) (h := ks i a q r) (i := (.invokestatic 74, 3, 120, 0, 9, 0, 152)) (mi_k126.2 _ _ (by rfl)) (ft_invS mi_pq120 (by rfl)) (cy := mi_c120) mi_pq120 rfl (kc120 hG.I hG.R 0 0 6) (by decide) ?_
  intro vg1 hg1
  rcases hg1 with ⟨eg1, hg1⟩ | ⟨eg1, hg1⟩
  ·
    subst eg1
    refine ft_goS mi_k126 4 15 [.int 0, .ref (mi_RO + 1), .int x2] (by rfl) ?_
    refine ft_ro mi_k126 (w := 0) (by decide +kernel) (by decide +kernel) ?_
    refine ft_goS mi_k126 2 20 [.int 0, .ref (mi_RO + 2), .int 0, .int x2] (by rfl) ?_
    refine ft_ro mi_k126 (w := 999) (by decide +kernel) (by decide +kernel) ?_
    refine ko_callPI mi_k126.1 (pc := 21) (ls := [(0, .int 0), (1, .int x2)]) (st := [.int 999, .int 0, .int x2]) (h := ks i a q r) (i := (.invokestatic 74, 3, 120, 0, 9, 0, 152)) (mi_k126.2 _ _ (by rfl)) (ft_invS mi_pq120 (by rfl)) (cy := mi_c120) mi_pq120 rfl (kc120 hG.I hG.R x2 0 999) (by decide) ?_
    intro vg5 hg5
    rcases hg5 with ⟨eg5, hg5⟩ | ⟨eg5, hg5⟩
    ·
      subst eg5
      have z6 : ((0 : Int32).toInt ≤ x2.toInt) ∧ (x2.toInt ≤ (999 : Int32).toInt) := hg5
      first | refine fo_goS mi_k126 fz126_24_3_32 [.int 1] (by rfl) ?_ | refine ft_goS mi_k126 3 32 [.int 1] (by rfl) ?_
      exact ft_ret mi_k126 (by rfl) (hP 1 (Or.inl ⟨rfl, (ou80 z6.1 z6.2 kou0 kou999)⟩))
    ·
      subst eg5
      have z7 : ¬ (((0 : Int32).toInt ≤ x2.toInt) ∧ (x2.toInt ≤ (999 : Int32).toInt)) := hg5
      first | refine fo_goS mi_k126 fz126_27_2_32 [.int 0] (by rfl) ?_ | refine fo_goS mi_k126 fz126_7_2_32 [.int 0] (by rfl) ?_ | refine fo_goS mi_k126 fz126_24_2_32 [.int 0] (by rfl) ?_
      exact ft_ret mi_k126 (by rfl) (hP 0 (Or.inr ⟨rfl, (ou81 z7 kou0 kou999)⟩))
  ·
    subst eg1
    have z8 : ¬ (((0 : Int32).toInt ≤ (0 : Int32).toInt) ∧ ((0 : Int32).toInt ≤ (6 : Int32).toInt)) := hg1
    exact (ou82 z8 kou0 kou6).elim
set_option maxRecDepth 100000 in
theorem ke126_l03 {i : Nat → Int32} {a : Nat → List Int32} {q : Nat → List Int64} {r : Nat → Nat} (hI : kI i a q) (hr : kr r) (x2 : Int32) : km 3 126 [.int 3, .int x2] (ks i a q r) (kPI (ks i a q r) (fun v => (v = 1 ∧ (((0 : Int) ≤ x2.toInt) ∧ (x2.toInt ≤ 1))) ∨ (v = 0 ∧ (¬ (((0 : Int) ≤ x2.toInt) ∧ (x2.toInt ≤ 1)))))) := by
  have hG := kG_self kW0 hI hr
  refine km_ofPI (q := (mi_h126, mi_c126)) rfl (by decide) (Nat.le_of_ble_eq_true rfl) ?_
  intro P hP
  refine fo_goL mi_k126 fz126_0_3_4 [(0, .int 3), (1, .int x2)] [.int 6, .int 0, .int 3] rfl ?_
  refine ko_callPI mi_k126.1 (pc := 4) (ls := [(0, .int 3), (1, .int x2)]) (st := [.int 6, .int 0, .int 3]) (h := ks i a q r) (i := (.invokestatic 74, 3, 120, 0, 9, 0, 152)) (mi_k126.2 _ _ (by rfl)) (ft_invS mi_pq120 (by rfl)) (cy := mi_c120) mi_pq120 rfl (kc120 hG.I hG.R 3 0 6) (by decide) ?_
  intro vg1 hg1
  rcases hg1 with ⟨eg1, hg1⟩ | ⟨eg1, hg1⟩
  ·
    subst eg1
    refine ft_goS mi_k126 4 15 [.int 3, .ref (mi_RO + 1), .int x2] (by rfl) ?_
    refine ft_ro mi_k126 (w := 0) (by decide +kernel) (by decide +kernel) ?_
    refine ft_goS mi_k126 2 20 [.int 3, .ref (mi_RO + 2), .int 0, .int x2] (by rfl) ?_
    refine ft_ro mi_k126 (w := 1) (by decide +kernel) (by decide +kernel) ?_
    refine ko_callPI mi_k126.1 (pc := 21) (ls := [(0, .int 3), (1, .int x2)]) (st := [.int 1, .int 0, .int x2]) (h := ks i a q r) (i := (.invokestatic 74, 3, 120, 0, 9, 0, 152)) (mi_k126.2 _ _ (by rfl)) (ft_invS mi_pq120 (by rfl)) (cy := mi_c120) mi_pq120 rfl (kc120 hG.I hG.R x2 0 1) (by decide) ?_
    intro vg5 hg5
    rcases hg5 with ⟨eg5, hg5⟩ | ⟨eg5, hg5⟩
    ·
      subst eg5
      have z6 : ((0 : Int32).toInt ≤ x2.toInt) ∧ (x2.toInt ≤ (1 : Int32).toInt) := hg5
      first | refine fo_goS mi_k126 fz126_24_3_32 [.int 1] (by rfl) ?_ | refine ft_goS mi_k126 3 32 [.int 1] (by rfl) ?_
      exact ft_ret mi_k126 (by rfl) (hP 1 (Or.inl ⟨rfl, (ou101 z6.1 z6.2 kou0 kou1)⟩))
    ·
      subst eg5
      have z7 : ¬ (((0 : Int32).toInt ≤ x2.toInt) ∧ (x2.toInt ≤ (1 : Int32).toInt)) := hg5
      first | refine fo_goS mi_k126 fz126_27_2_32 [.int 0] (by rfl) ?_ | refine fo_goS mi_k126 fz126_7_2_32 [.int 0] (by rfl) ?_ | refine fo_goS mi_k126 fz126_24_2_32 [.int 0] (by rfl) ?_
      exact ft_ret mi_k126 (by rfl) (hP 0 (Or.inr ⟨rfl, (ou102 z7 kou0 kou1)⟩))
  ·
    subst eg1
    have z8 : ¬ (((0 : Int32).toInt ≤ (3 : Int32).toInt) ∧ ((3 : Int32).toInt ≤ (6 : Int32).toInt)) := hg1
    exact (ou103 z8 kou0 kou3 kou6).elim
set_option maxRecDepth 100000 in
theorem ke126_l04 {i : Nat → Int32} {a : Nat → List Int32} {q : Nat → List Int64} {r : Nat → Nat} (hI : kI i a q) (hr : kr r) (x2 : Int32) : km 3 126 [.int 4, .int x2] (ks i a q r) (kPI (ks i a q r) (fun v => (v = 1 ∧ (((1 : Int) ≤ x2.toInt) ∧ (x2.toInt ≤ 5))) ∨ (v = 0 ∧ (¬ (((1 : Int) ≤ x2.toInt) ∧ (x2.toInt ≤ 5)))))) := by
  have hG := kG_self kW0 hI hr
  refine km_ofPI (q := (mi_h126, mi_c126)) rfl (by decide) (Nat.le_of_ble_eq_true rfl) ?_
  intro P hP
  refine fo_goL mi_k126 fz126_0_3_4 [(0, .int 4), (1, .int x2)] [.int 6, .int 0, .int 4] rfl ?_
  refine ko_callPI mi_k126.1 (pc := 4) (ls := [(0, .int 4), (1, .int x2)]) (st := [.int 6, .int 0, .int 4]) (h := ks i a q r) (i := (.invokestatic 74, 3, 120, 0, 9, 0, 152)) (mi_k126.2 _ _ (by rfl)) (ft_invS mi_pq120 (by rfl)) (cy := mi_c120) mi_pq120 rfl (kc120 hG.I hG.R 4 0 6) (by decide) ?_
  intro vg1 hg1
  rcases hg1 with ⟨eg1, hg1⟩ | ⟨eg1, hg1⟩
  ·
    subst eg1
    refine ft_goS mi_k126 4 15 [.int 4, .ref (mi_RO + 1), .int x2] (by rfl) ?_
    refine ft_ro mi_k126 (w := 1) (by decide +kernel) (by decide +kernel) ?_
    refine ft_goS mi_k126 2 20 [.int 4, .ref (mi_RO + 2), .int 1, .int x2] (by rfl) ?_
    refine ft_ro mi_k126 (w := 5) (by decide +kernel) (by decide +kernel) ?_
    refine ko_callPI mi_k126.1 (pc := 21) (ls := [(0, .int 4), (1, .int x2)]) (st := [.int 5, .int 1, .int x2]) (h := ks i a q r) (i := (.invokestatic 74, 3, 120, 0, 9, 0, 152)) (mi_k126.2 _ _ (by rfl)) (ft_invS mi_pq120 (by rfl)) (cy := mi_c120) mi_pq120 rfl (kc120 hG.I hG.R x2 1 5) (by decide) ?_
    intro vg5 hg5
    rcases hg5 with ⟨eg5, hg5⟩ | ⟨eg5, hg5⟩
    ·
      subst eg5
      have z6 : ((1 : Int32).toInt ≤ x2.toInt) ∧ (x2.toInt ≤ (5 : Int32).toInt) := hg5
      first | refine fo_goS mi_k126 fz126_24_3_32 [.int 1] (by rfl) ?_ | refine ft_goS mi_k126 3 32 [.int 1] (by rfl) ?_
      exact ft_ret mi_k126 (by rfl) (hP 1 (Or.inl ⟨rfl, (ou110 z6.1 z6.2 kou1 kou5)⟩))
    ·
      subst eg5
      have z7 : ¬ (((1 : Int32).toInt ≤ x2.toInt) ∧ (x2.toInt ≤ (5 : Int32).toInt)) := hg5
      first | refine fo_goS mi_k126 fz126_27_2_32 [.int 0] (by rfl) ?_ | refine fo_goS mi_k126 fz126_7_2_32 [.int 0] (by rfl) ?_ | refine fo_goS mi_k126 fz126_24_2_32 [.int 0] (by rfl) ?_
      exact ft_ret mi_k126 (by rfl) (hP 0 (Or.inr ⟨rfl, (ou111 z7 kou1 kou5)⟩))
  ·
    subst eg1
    have z8 : ¬ (((0 : Int32).toInt ≤ (4 : Int32).toInt) ∧ ((4 : Int32).toInt ≤ (6 : Int32).toInt)) := hg1
    exact (ou112 z8 kou0 kou4 kou6).elim
set_option maxRecDepth 100000 in
theorem ke126_l05 {i : Nat → Int32} {a : Nat → List Int32} {q : Nat → List Int64} {r : Nat → Nat} (hI : kI i a q) (hr : kr r) (x2 : Int32) : km 3 126 [.int 5, .int x2] (ks i a q r) (kPI (ks i a q r) (fun v => (v = 1 ∧ (((0 : Int) ≤ x2.toInt) ∧ (x2.toInt ≤ 1))) ∨ (v = 0 ∧ (¬ (((0 : Int) ≤ x2.toInt) ∧ (x2.toInt ≤ 1)))))) := by
  have hG := kG_self kW0 hI hr
  refine km_ofPI (q := (mi_h126, mi_c126)) rfl (by decide) (Nat.le_of_ble_eq_true rfl) ?_
  intro P hP
  refine fo_goL mi_k126 fz126_0_3_4 [(0, .int 5), (1, .int x2)] [.int 6, .int 0, .int 5] rfl ?_
  refine ko_callPI mi_k126.1 (pc := 4) (ls := [(0, .int 5), (1, .int x2)]) (st := [.int 6, .int 0, .int 5]) (h := ks i a q r) (i := (.invokestatic 74, 3, 120, 0, 9, 0, 152)) (mi_k126.2 _ _ (by rfl)) (ft_invS mi_pq120 (by rfl)) (cy := mi_c120) mi_pq120 rfl (kc120 hG.I hG.R 5 0 6) (by decide) ?_
  intro vg1 hg1
  rcases hg1 with ⟨eg1, hg1⟩ | ⟨eg1, hg1⟩
  ·
    subst eg1
    refine ft_goS mi_k126 4 15 [.int 5, .ref (mi_RO + 1), .int x2] (by rfl) ?_
    refine ft_ro mi_k126 (w := 0) (by decide +kernel) (by decide +kernel) ?_
    refine ft_goS mi_k126 2 20 [.int 5, .ref (mi_RO + 2), .int 0, .int x2] (by rfl) ?_
    refine ft_ro mi_k126 (w := 1) (by decide +kernel) (by decide +kernel) ?_
    refine ko_callPI mi_k126.1 (pc := 21) (ls := [(0, .int 5), (1, .int x2)]) (st := [.int 1, .int 0, .int x2]) (h := ks i a q r) (i := (.invokestatic 74, 3, 120, 0, 9, 0, 152)) (mi_k126.2 _ _ (by rfl)) (ft_invS mi_pq120 (by rfl)) (cy := mi_c120) mi_pq120 rfl (kc120 hG.I hG.R x2 0 1) (by decide) ?_
    intro vg5 hg5
    rcases hg5 with ⟨eg5, hg5⟩ | ⟨eg5, hg5⟩
    ·
      subst eg5
      have z6 : ((0 : Int32).toInt ≤ x2.toInt) ∧ (x2.toInt ≤ (1 : Int32).toInt) := hg5
      first | refine fo_goS mi_k126 fz126_24_3_32 [.int 1] (by rfl) ?_ | refine ft_goS mi_k126 3 32 [.int 1] (by rfl) ?_
      exact ft_ret mi_k126 (by rfl) (hP 1 (Or.inl ⟨rfl, (ou101 z6.1 z6.2 kou0 kou1)⟩))
    ·
      subst eg5
      have z7 : ¬ (((0 : Int32).toInt ≤ x2.toInt) ∧ (x2.toInt ≤ (1 : Int32).toInt)) := hg5
      first | refine fo_goS mi_k126 fz126_27_2_32 [.int 0] (by rfl) ?_ | refine fo_goS mi_k126 fz126_7_2_32 [.int 0] (by rfl) ?_ | refine fo_goS mi_k126 fz126_24_2_32 [.int 0] (by rfl) ?_
      exact ft_ret mi_k126 (by rfl) (hP 0 (Or.inr ⟨rfl, (ou102 z7 kou0 kou1)⟩))
  ·
    subst eg1
    have z8 : ¬ (((0 : Int32).toInt ≤ (5 : Int32).toInt) ∧ ((5 : Int32).toInt ≤ (6 : Int32).toInt)) := hg1
    exact (ou118 z8 kou0 kou5 kou6).elim
set_option maxRecDepth 100000 in
theorem ke126_l06 {i : Nat → Int32} {a : Nat → List Int32} {q : Nat → List Int64} {r : Nat → Nat} (hI : kI i a q) (hr : kr r) (x2 : Int32) : km 3 126 [.int 6, .int x2] (ks i a q r) (kPI (ks i a q r) (fun v => (v = 1 ∧ (((0 : Int) ≤ x2.toInt) ∧ (x2.toInt ≤ 99))) ∨ (v = 0 ∧ (¬ (((0 : Int) ≤ x2.toInt) ∧ (x2.toInt ≤ 99)))))) := by
  have hG := kG_self kW0 hI hr
  refine km_ofPI (q := (mi_h126, mi_c126)) rfl (by decide) (Nat.le_of_ble_eq_true rfl) ?_
  intro P hP
  refine fo_goL mi_k126 fz126_0_3_4 [(0, .int 6), (1, .int x2)] [.int 6, .int 0, .int 6] rfl ?_
  refine ko_callPI mi_k126.1 (pc := 4) (ls := [(0, .int 6), (1, .int x2)]) (st := [.int 6, .int 0, .int 6]) (h := ks i a q r) (i := (.invokestatic 74, 3, 120, 0, 9, 0, 152)) (mi_k126.2 _ _ (by rfl)) (ft_invS mi_pq120 (by rfl)) (cy := mi_c120) mi_pq120 rfl (kc120 hG.I hG.R 6 0 6) (by decide) ?_
  intro vg1 hg1
  rcases hg1 with ⟨eg1, hg1⟩ | ⟨eg1, hg1⟩
  ·
    subst eg1
    refine ft_goS mi_k126 4 15 [.int 6, .ref (mi_RO + 1), .int x2] (by rfl) ?_
    refine ft_ro mi_k126 (w := 0) (by decide +kernel) (by decide +kernel) ?_
    refine ft_goS mi_k126 2 20 [.int 6, .ref (mi_RO + 2), .int 0, .int x2] (by rfl) ?_
    refine ft_ro mi_k126 (w := 99) (by decide +kernel) (by decide +kernel) ?_
    refine ko_callPI mi_k126.1 (pc := 21) (ls := [(0, .int 6), (1, .int x2)]) (st := [.int 99, .int 0, .int x2]) (h := ks i a q r) (i := (.invokestatic 74, 3, 120, 0, 9, 0, 152)) (mi_k126.2 _ _ (by rfl)) (ft_invS mi_pq120 (by rfl)) (cy := mi_c120) mi_pq120 rfl (kc120 hG.I hG.R x2 0 99) (by decide) ?_
    intro vg5 hg5
    rcases hg5 with ⟨eg5, hg5⟩ | ⟨eg5, hg5⟩
    ·
      subst eg5
      have z6 : ((0 : Int32).toInt ≤ x2.toInt) ∧ (x2.toInt ≤ (99 : Int32).toInt) := hg5
      first | refine fo_goS mi_k126 fz126_24_3_32 [.int 1] (by rfl) ?_ | refine ft_goS mi_k126 3 32 [.int 1] (by rfl) ?_
      exact ft_ret mi_k126 (by rfl) (hP 1 (Or.inl ⟨rfl, (ou122 z6.1 z6.2 kou0 kou99)⟩))
    ·
      subst eg5
      have z7 : ¬ (((0 : Int32).toInt ≤ x2.toInt) ∧ (x2.toInt ≤ (99 : Int32).toInt)) := hg5
      first | refine fo_goS mi_k126 fz126_27_2_32 [.int 0] (by rfl) ?_ | refine fo_goS mi_k126 fz126_7_2_32 [.int 0] (by rfl) ?_ | refine fo_goS mi_k126 fz126_24_2_32 [.int 0] (by rfl) ?_
      exact ft_ret mi_k126 (by rfl) (hP 0 (Or.inr ⟨rfl, (ou123 z7 kou0 kou99)⟩))
  ·
    subst eg1
    have z8 : ¬ (((0 : Int32).toInt ≤ (6 : Int32).toInt) ∧ ((6 : Int32).toInt ≤ (6 : Int32).toInt)) := hg1
    exact (ou124 z8 kou0 kou6).elim
noncomputable def yw83_0 : kW := ([70, 71, 72, 5700, 5701], [2, 3, 4, 5, 90, 91, 92, 93], [], [])
set_option maxRecDepth 100000 in
theorem ke83_0 {i : Nat → Int32} {a : Nat → List Int32} {q : Nat → List Int64} {r : Nat → Nat} (hI : kI i a q) (hr : kr r) (x1 : Int32) (x2 : Int32) (x3 : Int32) : km 7 83 [.ref 0, .int x1, .int x2, .int x3] (ks i a q r) (kVI yw83_0 i a q r (fun v i1 a1 q1 r1 => (True) ∧ (v = (cMend (i 64) x1 x2 x3 (a 2, a 3, a 4, a 5, i 70, i 71, i 72) (a 90, a 91, a 92, a 93, i 5700, i 5701)).1 ∧ a1 2 = ((cMend (i 64) x1 x2 x3 (a 2, a 3, a 4, a 5, i 70, i 71, i 72) (a 90, a 91, a 92, a 93, i 5700, i 5701)).2.1).1 ∧ a1 3 = ((cMend (i 64) x1 x2 x3 (a 2, a 3, a 4, a 5, i 70, i 71, i 72) (a 90, a 91, a 92, a 93, i 5700, i 5701)).2.1).2.1 ∧ a1 4 = ((cMend (i 64) x1 x2 x3 (a 2, a 3, a 4, a 5, i 70, i 71, i 72) (a 90, a 91, a 92, a 93, i 5700, i 5701)).2.1).2.2.1 ∧ a1 5 = ((cMend (i 64) x1 x2 x3 (a 2, a 3, a 4, a 5, i 70, i 71, i 72) (a 90, a 91, a 92, a 93, i 5700, i 5701)).2.1).2.2.2.1 ∧ i1 70 = ((cMend (i 64) x1 x2 x3 (a 2, a 3, a 4, a 5, i 70, i 71, i 72) (a 90, a 91, a 92, a 93, i 5700, i 5701)).2.1).2.2.2.2.1 ∧ i1 71 = ((cMend (i 64) x1 x2 x3 (a 2, a 3, a 4, a 5, i 70, i 71, i 72) (a 90, a 91, a 92, a 93, i 5700, i 5701)).2.1).2.2.2.2.2.1 ∧ i1 72 = ((cMend (i 64) x1 x2 x3 (a 2, a 3, a 4, a 5, i 70, i 71, i 72) (a 90, a 91, a 92, a 93, i 5700, i 5701)).2.1).2.2.2.2.2.2 ∧ a1 90 = ((cMend (i 64) x1 x2 x3 (a 2, a 3, a 4, a 5, i 70, i 71, i 72) (a 90, a 91, a 92, a 93, i 5700, i 5701)).2.2).1 ∧ a1 91 = ((cMend (i 64) x1 x2 x3 (a 2, a 3, a 4, a 5, i 70, i 71, i 72) (a 90, a 91, a 92, a 93, i 5700, i 5701)).2.2).2.1 ∧ a1 92 = ((cMend (i 64) x1 x2 x3 (a 2, a 3, a 4, a 5, i 70, i 71, i 72) (a 90, a 91, a 92, a 93, i 5700, i 5701)).2.2).2.2.1 ∧ a1 93 = ((cMend (i 64) x1 x2 x3 (a 2, a 3, a 4, a 5, i 70, i 71, i 72) (a 90, a 91, a 92, a 93, i 5700, i 5701)).2.2).2.2.2.1 ∧ i1 5700 = ((cMend (i 64) x1 x2 x3 (a 2, a 3, a 4, a 5, i 70, i 71, i 72) (a 90, a 91, a 92, a 93, i 5700, i 5701)).2.2).2.2.2.2.1 ∧ i1 5701 = ((cMend (i 64) x1 x2 x3 (a 2, a 3, a 4, a 5, i 70, i 71, i 72) (a 90, a 91, a 92, a 93, i 5700, i 5701)).2.2).2.2.2.2.2))) := by
  have hG := kG_self yw83_0 hI hr
  refine km_ofI (q := (mi_h83, mi_c83)) rfl (by decide) (Nat.le_of_ble_eq_true rfl) ?_
  intro P hP
  refine ft_goL mi_k83 3 3 [(0, .ref 0), (1, .int x1), (2, .int x2), (3, .int x3)] [.int x2, .int x1, .ref 0] (by rfl) ?_
  refine ko_callPI mi_k83.1 (pc := 3) (ls := [(0, .ref 0), (1, .int x1), (2, .int x2), (3, .int x3)]) (st := [.int x2, .int x1, .ref 0]) (h := ks i a q r) (i := (.invokevirtual 95, 3, 125, 0, 9, 0, 161)) (mi_k83.2 _ _ (by rfl)) (ft_invS mi_pq125 (by rfl)) (cy := mi_c125) mi_pq125 rfl (kc125_0 hG.I hG.R x1 x2) (by decide) ?_
  intro vg1 hg1
  rcases hg1 with ⟨eg1, hg1⟩ | ⟨eg1, hg1⟩
  ·
    subst eg1
    have z2 : (((0 : Int) ≤ x2.toInt) ∧ (x2.toInt ≤ 3) ∧ ((0 : Int) ≤ x1.toInt) ∧ (x1.toInt < (i 64).toInt)) ∨ (((4 : Int) ≤ x2.toInt) ∧ (x2.toInt ≤ 6) ∧ (x1.toInt = 0)) := hg1
    refine ft_goS mi_k83 3 11 [.int x3, .int x2] (by rfl) ?_
    by_cases w3 : x2.toInt = 0
    ·
      refine ko_eq (x1 := (11, [(0, .ref 0), (1, .int x1), (2, .int x2), (3, .int x3)], [.int x3, .int 0], (0, 0), ks i a q r)) (by rw [(kj_eq w3 (by decide) : x2 = 0)]) ?_
      refine ko_callPI mi_k83.1 (pc := 11) (ls := [(0, .ref 0), (1, .int x1), (2, .int x2), (3, .int x3)]) (st := [.int x3, .int 0]) (h := ks i a q r) (i := (.invokestatic 58, 3, 126, 0, 9, 0, 151)) (mi_k83.2 _ _ (by rfl)) (ft_invS mi_pq126 (by rfl)) (cy := mi_c126) mi_pq126 rfl (ke126_l00 hG.I hG.R x3) (by decide) ?_
      intro vg4 hg4
      rcases hg4 with ⟨eg4, hg4⟩ | ⟨eg4, hg4⟩
      ·
        subst eg4
        have z5 : ((0 : Int) ≤ x3.toInt) ∧ (x3.toInt ≤ 999) := hg4
        refine fo_goS mi_k83 fz83_14_5_25 [.int x2, .int x1, .ref 1] rfl ?_
        refine ko_callPI mi_k83.1 (pc := 25) (ls := [(0, .ref 0), (1, .int x1), (2, .int x2), (3, .int x3)]) (st := [.int x2, .int x1, .ref 1]) (h := ks i a q r) (i := (.invokevirtual 98, 3, 27, 0, 9, 0, 164)) (mi_k83.2 _ _ (by rfl)) (ft_invS mi_pq27 (by rfl)) (cy := mi_c27) mi_pq27 rfl (ke27_1 hG.I hG.R x1 x2) (by decide) ?_
        intro vg6 hg6
        obtain ⟨hg6, og6⟩ := hg6
        have q7 : vg6 = cGet (i 64) x1 x2 (a 2, a 3, a 4, a 5, i 70, i 71, i 72) := og6
        have u8 : vg6.toInt = (cGet (i 64) x1 x2 (a 2, a 3, a 4, a 5, i 70, i 71, i 72)).toInt := congrArg Int32.toInt q7
        refine fo_goL mi_k83 fz83_28_3_33 [(4, .int vg6), (0, .ref 0), (1, .int x1), (2, .int x2), (3, .int x3)] [.int x3, .int vg6] rfl ?_
        refine ft_ifS mi_k83 (vg6 == x3) 58 36 [] (by rfl) (fun c => ?_) (fun c => ?_)
        ·
          have c9 : vg6.toInt = x3.toInt := kd_eq c; clear c
          refine fo_goS mi_k83 fz83_58_1_60 [.int vg6] rfl ?_
          have bw10 : (kTold (i 64) x1 x2 ∧ kFit x2 x3) := ⟨(ou83 w3 z2), (kFit_0 (ou11 w3)).mpr (ou84 z5.1 z5.2)⟩
          have bw11 : (cGet (i 64) x1 x2 (a 2, a 3, a 4, a 5, i 70, i 71, i 72)).toInt = x3.toInt := (ou85 c9 u8)
          exact ft_ret mi_k83 (by rfl) (hP vg6 _ _ _ _ hG ⟨trivial, ⟨(show vg6 = (cMend (i 64) x1 x2 x3 (a 2, a 3, a 4, a 5, i 70, i 71, i 72) (a 90, a 91, a 92, a 93, i 5700, i 5701)).1 from (by unfold cMend; simp only [if_pos bw10, if_pos bw11]; first | done | rfl | (simp only [q7, sMn, sMx]; done) | (simp only [q7, sMn, sMx]; rfl))), (show a 2 = ((cMend (i 64) x1 x2 x3 (a 2, a 3, a 4, a 5, i 70, i 71, i 72) (a 90, a 91, a 92, a 93, i 5700, i 5701)).2.1).1 from (by unfold cMend; simp only [if_pos bw10, if_pos bw11]; first | done | rfl | (simp only [sMn, sMx]; done) | (simp only [sMn, sMx]; rfl))), (show a 3 = ((cMend (i 64) x1 x2 x3 (a 2, a 3, a 4, a 5, i 70, i 71, i 72) (a 90, a 91, a 92, a 93, i 5700, i 5701)).2.1).2.1 from (by unfold cMend; simp only [if_pos bw10, if_pos bw11]; first | done | rfl | (simp only [sMn, sMx]; done) | (simp only [sMn, sMx]; rfl))), (show a 4 = ((cMend (i 64) x1 x2 x3 (a 2, a 3, a 4, a 5, i 70, i 71, i 72) (a 90, a 91, a 92, a 93, i 5700, i 5701)).2.1).2.2.1 from (by unfold cMend; simp only [if_pos bw10, if_pos bw11]; first | done | rfl | (simp only [sMn, sMx]; done) | (simp only [sMn, sMx]; rfl))), (show a 5 = ((cMend (i 64) x1 x2 x3 (a 2, a 3, a 4, a 5, i 70, i 71, i 72) (a 90, a 91, a 92, a 93, i 5700, i 5701)).2.1).2.2.2.1 from (by unfold cMend; simp only [if_pos bw10, if_pos bw11]; first | done | rfl | (simp only [sMn, sMx]; done) | (simp only [sMn, sMx]; rfl))), (show i 70 = ((cMend (i 64) x1 x2 x3 (a 2, a 3, a 4, a 5, i 70, i 71, i 72) (a 90, a 91, a 92, a 93, i 5700, i 5701)).2.1).2.2.2.2.1 from (by unfold cMend; simp only [if_pos bw10, if_pos bw11]; first | done | rfl | (simp only [sMn, sMx]; done) | (simp only [sMn, sMx]; rfl))), (show i 71 = ((cMend (i 64) x1 x2 x3 (a 2, a 3, a 4, a 5, i 70, i 71, i 72) (a 90, a 91, a 92, a 93, i 5700, i 5701)).2.1).2.2.2.2.2.1 from (by unfold cMend; simp only [if_pos bw10, if_pos bw11]; first | done | rfl | (simp only [sMn, sMx]; done) | (simp only [sMn, sMx]; rfl))), (show i 72 = ((cMend (i 64) x1 x2 x3 (a 2, a 3, a 4, a 5, i 70, i 71, i 72) (a 90, a 91, a 92, a 93, i 5700, i 5701)).2.1).2.2.2.2.2.2 from (by unfold cMend; simp only [if_pos bw10, if_pos bw11]; first | done | rfl | (simp only [sMn, sMx]; done) | (simp only [sMn, sMx]; rfl))), (show a 90 = ((cMend (i 64) x1 x2 x3 (a 2, a 3, a 4, a 5, i 70, i 71, i 72) (a 90, a 91, a 92, a 93, i 5700, i 5701)).2.2).1 from (by unfold cMend; simp only [if_pos bw10, if_pos bw11]; first | done | rfl | (simp only [sMn, sMx]; done) | (simp only [sMn, sMx]; rfl))), (show a 91 = ((cMend (i 64) x1 x2 x3 (a 2, a 3, a 4, a 5, i 70, i 71, i 72) (a 90, a 91, a 92, a 93, i 5700, i 5701)).2.2).2.1 from (by unfold cMend; simp only [if_pos bw10, if_pos bw11]; first | done | rfl | (simp only [sMn, sMx]; done) | (simp only [sMn, sMx]; rfl))), (show a 92 = ((cMend (i 64) x1 x2 x3 (a 2, a 3, a 4, a 5, i 70, i 71, i 72) (a 90, a 91, a 92, a 93, i 5700, i 5701)).2.2).2.2.1 from (by unfold cMend; simp only [if_pos bw10, if_pos bw11]; first | done | rfl | (simp only [sMn, sMx]; done) | (simp only [sMn, sMx]; rfl))), (show a 93 = ((cMend (i 64) x1 x2 x3 (a 2, a 3, a 4, a 5, i 70, i 71, i 72) (a 90, a 91, a 92, a 93, i 5700, i 5701)).2.2).2.2.2.1 from (by unfold cMend; simp only [if_pos bw10, if_pos bw11]; first | done | rfl | (simp only [sMn, sMx]; done) | (simp only [sMn, sMx]; rfl))), (show i 5700 = ((cMend (i 64) x1 x2 x3 (a 2, a 3, a 4, a 5, i 70, i 71, i 72) (a 90, a 91, a 92, a 93, i 5700, i 5701)).2.2).2.2.2.2.1 from (by unfold cMend; simp only [if_pos bw10, if_pos bw11]; first | done | rfl | (simp only [sMn, sMx]; done) | (simp only [sMn, sMx]; rfl))), (show i 5701 = ((cMend (i 64) x1 x2 x3 (a 2, a 3, a 4, a 5, i 70, i 71, i 72) (a 90, a 91, a 92, a 93, i 5700, i 5701)).2.2).2.2.2.2.2 from (by unfold cMend; simp only [if_pos bw10, if_pos bw11]; first | done | rfl | (simp only [sMn, sMx]; done) | (simp only [sMn, sMx]; rfl)))⟩⟩)
        ·
          have c12 : vg6.toInt ≠ x3.toInt := kd_eqF c; clear c
          refine fo_goS mi_k83 fz83_36_5_43 [.int x3, .int x2, .int x1, .ref 1] rfl ?_
          refine ko_callN mi_k83.1 (pc := 43) (ls := [(4, .int vg6), (0, .ref 0), (1, .int x1), (2, .int x2), (3, .int x3)]) (st := [.int x3, .int x2, .int x1, .ref 1]) (h := ks i a q r) (i := (.invokevirtual 102, 3, 28, 0, 9, 0, 167)) (mi_k83.2 _ _ (by rfl)) (ft_invS mi_pq28 (by rfl)) (cy := mi_c28) mi_pq28 rfl (ke28_1 hG.I hG.R x1 x2 x3) (by decide) ?_
          intro ig13 ag13 qg13 rg13 kg13 hg13
          have hGg13 := kG_call hG kg13 (by decide +kernel)
          obtain ⟨hg13, og13⟩ := hg13
          have q14 : ag13 2 = (cSet (i 64) x1 x2 x3 (a 2, a 3, a 4, a 5, i 70, i 71, i 72)).1 := og13.1
          have q15 : ag13 3 = (cSet (i 64) x1 x2 x3 (a 2, a 3, a 4, a 5, i 70, i 71, i 72)).2.1 := og13.2.1
          have q16 : ag13 4 = (cSet (i 64) x1 x2 x3 (a 2, a 3, a 4, a 5, i 70, i 71, i 72)).2.2.1 := og13.2.2.1
          have q17 : ag13 5 = (cSet (i 64) x1 x2 x3 (a 2, a 3, a 4, a 5, i 70, i 71, i 72)).2.2.2.1 := og13.2.2.2.1
          have q18 : ig13 70 = (cSet (i 64) x1 x2 x3 (a 2, a 3, a 4, a 5, i 70, i 71, i 72)).2.2.2.2.1 := og13.2.2.2.2.1
          have q19 : ig13 71 = (cSet (i 64) x1 x2 x3 (a 2, a 3, a 4, a 5, i 70, i 71, i 72)).2.2.2.2.2.1 := og13.2.2.2.2.2.1
          have q20 : ig13 72 = (cSet (i 64) x1 x2 x3 (a 2, a 3, a 4, a 5, i 70, i 71, i 72)).2.2.2.2.2.2 := og13.2.2.2.2.2.2
          refine fo_goS mi_k83 fz83_46_6_55 [.int x3, .int vg6, .int x2, .int x1, .ref 89] rfl ?_
          refine ko_callN mi_k83.1 (pc := 55) (ls := [(4, .int vg6), (0, .ref 0), (1, .int x1), (2, .int x2), (3, .int x3)]) (st := [.int x3, .int vg6, .int x2, .int x1, .ref 89]) (h := ks ig13 ag13 qg13 rg13) (i := (.invokevirtual 106, 3, 5, 0, 9, 0, 168)) (mi_k83.2 _ _ (by rfl)) (ft_invS mi_pq5 (by rfl)) (cy := mi_c5) mi_pq5 rfl (ke5_89 hGg13.I hGg13.R x1 x2 vg6 x3) (by decide) ?_
          intro ig21 ag21 qg21 rg21 kg21 hg21
          have hGg21 := kG_call hGg13 kg21 (by decide +kernel)
          obtain ⟨hg21, og21⟩ := hg21
          have q22 : ag21 90 = (nAdd x1 x2 vg6 x3 (ag13 90, ag13 91, ag13 92, ag13 93, ig13 5700, ig13 5701)).1 := og21.1
          have q23 : ag21 91 = (nAdd x1 x2 vg6 x3 (ag13 90, ag13 91, ag13 92, ag13 93, ig13 5700, ig13 5701)).2.1 := og21.2.1
          have q24 : ag21 92 = (nAdd x1 x2 vg6 x3 (ag13 90, ag13 91, ag13 92, ag13 93, ig13 5700, ig13 5701)).2.2.1 := og21.2.2.1
          have q25 : ag21 93 = (nAdd x1 x2 vg6 x3 (ag13 90, ag13 91, ag13 92, ag13 93, ig13 5700, ig13 5701)).2.2.2.1 := og21.2.2.2.1
          have q26 : ig21 5700 = (nAdd x1 x2 vg6 x3 (ag13 90, ag13 91, ag13 92, ag13 93, ig13 5700, ig13 5701)).2.2.2.2.1 := og21.2.2.2.2.1
          have q27 : ig21 5701 = (nAdd x1 x2 vg6 x3 (ag13 90, ag13 91, ag13 92, ag13 93, ig13 5700, ig13 5701)).2.2.2.2.2 := og21.2.2.2.2.2
          refine fo_goS mi_k83 fz83_58_1_60 [.int vg6] rfl ?_
          have bw28 : (kTold (i 64) x1 x2 ∧ kFit x2 x3) := ⟨(ou83 w3 z2), (kFit_0 (ou11 w3)).mpr (ou84 z5.1 z5.2)⟩
          have bw29 : ¬ ((cGet (i 64) x1 x2 (a 2, a 3, a 4, a 5, i 70, i 71, i 72)).toInt = x3.toInt) := (ou86 c12 u8)
          exact ft_ret mi_k83 (by rfl) (hP vg6 _ _ _ _ hGg21 ⟨trivial, ⟨(show vg6 = (cMend (i 64) x1 x2 x3 (a 2, a 3, a 4, a 5, i 70, i 71, i 72) (a 90, a 91, a 92, a 93, i 5700, i 5701)).1 from (by unfold cMend; simp only [if_pos bw28, if_neg bw29]; first | done | rfl | (simp only [q7, sMn, sMx]; done) | (simp only [q7, sMn, sMx]; rfl))), (show ag21 2 = ((cMend (i 64) x1 x2 x3 (a 2, a 3, a 4, a 5, i 70, i 71, i 72) (a 90, a 91, a 92, a 93, i 5700, i 5701)).2.1).1 from (by unfold cMend; simp only [if_pos bw28, if_neg bw29]; first | done | rfl | (simp only [kg21.fa 2 rfl, q14, sMn, sMx]; done) | (simp only [kg21.fa 2 rfl, q14, sMn, sMx]; rfl))), (show ag21 3 = ((cMend (i 64) x1 x2 x3 (a 2, a 3, a 4, a 5, i 70, i 71, i 72) (a 90, a 91, a 92, a 93, i 5700, i 5701)).2.1).2.1 from (by unfold cMend; simp only [if_pos bw28, if_neg bw29]; first | done | rfl | (simp only [kg21.fa 3 rfl, q15, sMn, sMx]; done) | (simp only [kg21.fa 3 rfl, q15, sMn, sMx]; rfl))), (show ag21 4 = ((cMend (i 64) x1 x2 x3 (a 2, a 3, a 4, a 5, i 70, i 71, i 72) (a 90, a 91, a 92, a 93, i 5700, i 5701)).2.1).2.2.1 from (by unfold cMend; simp only [if_pos bw28, if_neg bw29]; first | done | rfl | (simp only [kg21.fa 4 rfl, q16, sMn, sMx]; done) | (simp only [kg21.fa 4 rfl, q16, sMn, sMx]; rfl))), (show ag21 5 = ((cMend (i 64) x1 x2 x3 (a 2, a 3, a 4, a 5, i 70, i 71, i 72) (a 90, a 91, a 92, a 93, i 5700, i 5701)).2.1).2.2.2.1 from (by unfold cMend; simp only [if_pos bw28, if_neg bw29]; first | done | rfl | (simp only [kg21.fa 5 rfl, q17, sMn, sMx]; done) | (simp only [kg21.fa 5 rfl, q17, sMn, sMx]; rfl))), (show ig21 70 = ((cMend (i 64) x1 x2 x3 (a 2, a 3, a 4, a 5, i 70, i 71, i 72) (a 90, a 91, a 92, a 93, i 5700, i 5701)).2.1).2.2.2.2.1 from (by unfold cMend; simp only [if_pos bw28, if_neg bw29]; first | done | rfl | (simp only [(show ig21 70 = ig13 70 from kg21.fi 70 rfl), q18, sMn, sMx]; done) | (simp only [(show ig21 70 = ig13 70 from kg21.fi 70 rfl), q18, sMn, sMx]; rfl))), (show ig21 71 = ((cMend (i 64) x1 x2 x3 (a 2, a 3, a 4, a 5, i 70, i 71, i 72) (a 90, a 91, a 92, a 93, i 5700, i 5701)).2.1).2.2.2.2.2.1 from (by unfold cMend; simp only [if_pos bw28, if_neg bw29]; first | done | rfl | (simp only [(show ig21 71 = ig13 71 from kg21.fi 71 rfl), q19, sMn, sMx]; done) | (simp only [(show ig21 71 = ig13 71 from kg21.fi 71 rfl), q19, sMn, sMx]; rfl))), (show ig21 72 = ((cMend (i 64) x1 x2 x3 (a 2, a 3, a 4, a 5, i 70, i 71, i 72) (a 90, a 91, a 92, a 93, i 5700, i 5701)).2.1).2.2.2.2.2.2 from (by unfold cMend; simp only [if_pos bw28, if_neg bw29]; first | done | rfl | (simp only [(show ig21 72 = ig13 72 from kg21.fi 72 rfl), q20, sMn, sMx]; done) | (simp only [(show ig21 72 = ig13 72 from kg21.fi 72 rfl), q20, sMn, sMx]; rfl))), (show ag21 90 = ((cMend (i 64) x1 x2 x3 (a 2, a 3, a 4, a 5, i 70, i 71, i 72) (a 90, a 91, a 92, a 93, i 5700, i 5701)).2.2).1 from (by unfold cMend; simp only [if_pos bw28, if_neg bw29]; first | done | rfl | (simp only [q22, q7, kg13.fa 90 rfl, kg13.fa 91 rfl, kg13.fa 92 rfl, kg13.fa 93 rfl, (show ig13 5700 = i 5700 from kg13.fi 5700 rfl), (show ig13 5701 = i 5701 from kg13.fi 5701 rfl), sMn, sMx]; done) | (simp only [q22, q7, kg13.fa 90 rfl, kg13.fa 91 rfl, kg13.fa 92 rfl, kg13.fa 93 rfl, (show ig13 5700 = i 5700 from kg13.fi 5700 rfl), (show ig13 5701 = i 5701 from kg13.fi 5701 rfl), sMn, sMx]; rfl))), (show ag21 91 = ((cMend (i 64) x1 x2 x3 (a 2, a 3, a 4, a 5, i 70, i 71, i 72) (a 90, a 91, a 92, a 93, i 5700, i 5701)).2.2).2.1 from (by unfold cMend; simp only [if_pos bw28, if_neg bw29]; first | done | rfl | (simp only [q23, q7, kg13.fa 90 rfl, kg13.fa 91 rfl, kg13.fa 92 rfl, kg13.fa 93 rfl, (show ig13 5700 = i 5700 from kg13.fi 5700 rfl), (show ig13 5701 = i 5701 from kg13.fi 5701 rfl), sMn, sMx]; done) | (simp only [q23, q7, kg13.fa 90 rfl, kg13.fa 91 rfl, kg13.fa 92 rfl, kg13.fa 93 rfl, (show ig13 5700 = i 5700 from kg13.fi 5700 rfl), (show ig13 5701 = i 5701 from kg13.fi 5701 rfl), sMn, sMx]; rfl))), (show ag21 92 = ((cMend (i 64) x1 x2 x3 (a 2, a 3, a 4, a 5, i 70, i 71, i 72) (a 90, a 91, a 92, a 93, i 5700, i 5701)).2.2).2.2.1 from (by unfold cMend; simp only [if_pos bw28, if_neg bw29]; first | done | rfl | (simp only [q24, q7, kg13.fa 90 rfl, kg13.fa 91 rfl, kg13.fa 92 rfl, kg13.fa 93 rfl, (show ig13 5700 = i 5700 from kg13.fi 5700 rfl), (show ig13 5701 = i 5701 from kg13.fi 5701 rfl), sMn, sMx]; done) | (simp only [q24, q7, kg13.fa 90 rfl, kg13.fa 91 rfl, kg13.fa 92 rfl, kg13.fa 93 rfl, (show ig13 5700 = i 5700 from kg13.fi 5700 rfl), (show ig13 5701 = i 5701 from kg13.fi 5701 rfl), sMn, sMx]; rfl))), (show ag21 93 = ((cMend (i 64) x1 x2 x3 (a 2, a 3, a 4, a 5, i 70, i 71, i 72) (a 90, a 91, a 92, a 93, i 5700, i 5701)).2.2).2.2.2.1 from (by unfold cMend; simp only [if_pos bw28, if_neg bw29]; first | done | rfl | (simp only [q25, q7, kg13.fa 90 rfl, kg13.fa 91 rfl, kg13.fa 92 rfl, kg13.fa 93 rfl, (show ig13 5700 = i 5700 from kg13.fi 5700 rfl), (show ig13 5701 = i 5701 from kg13.fi 5701 rfl), sMn, sMx]; done) | (simp only [q25, q7, kg13.fa 90 rfl, kg13.fa 91 rfl, kg13.fa 92 rfl, kg13.fa 93 rfl, (show ig13 5700 = i 5700 from kg13.fi 5700 rfl), (show ig13 5701 = i 5701 from kg13.fi 5701 rfl), sMn, sMx]; rfl))), (show ig21 5700 = ((cMend (i 64) x1 x2 x3 (a 2, a 3, a 4, a 5, i 70, i 71, i 72) (a 90, a 91, a 92, a 93, i 5700, i 5701)).2.2).2.2.2.2.1 from (by unfold cMend; simp only [if_pos bw28, if_neg bw29]; first | done | rfl | (simp only [q26, q7, kg13.fa 90 rfl, kg13.fa 91 rfl, kg13.fa 92 rfl, kg13.fa 93 rfl, (show ig13 5700 = i 5700 from kg13.fi 5700 rfl), (show ig13 5701 = i 5701 from kg13.fi 5701 rfl), sMn, sMx]; done) | (simp only [q26, q7, kg13.fa 90 rfl, kg13.fa 91 rfl, kg13.fa 92 rfl, kg13.fa 93 rfl, (show ig13 5700 = i 5700 from kg13.fi 5700 rfl), (show ig13 5701 = i 5701 from kg13.fi 5701 rfl), sMn, sMx]; rfl))), (show ig21 5701 = ((cMend (i 64) x1 x2 x3 (a 2, a 3, a 4, a 5, i 70, i 71, i 72) (a 90, a 91, a 92, a 93, i 5700, i 5701)).2.2).2.2.2.2.2 from (by unfold cMend; simp only [if_pos bw28, if_neg bw29]; first | done | rfl | (simp only [q27, q7, kg13.fa 90 rfl, kg13.fa 91 rfl, kg13.fa 92 rfl, kg13.fa 93 rfl, (show ig13 5700 = i 5700 from kg13.fi 5700 rfl), (show ig13 5701 = i 5701 from kg13.fi 5701 rfl), sMn, sMx]; done) | (simp only [q27, q7, kg13.fa 90 rfl, kg13.fa 91 rfl, kg13.fa 92 rfl, kg13.fa 93 rfl, (show ig13 5700 = i 5700 from kg13.fi 5700 rfl), (show ig13 5701 = i 5701 from kg13.fi 5701 rfl), sMn, sMx]; rfl)))⟩⟩)
      ·
        subst eg4
        have z30 : ¬ (((0 : Int) ≤ x3.toInt) ∧ (x3.toInt ≤ 999)) := hg4
        first | refine fo_goS mi_k83 fz83_6_2_18 [.int (-1)] (by rfl) ?_ | refine fo_goS mi_k83 fz83_14_2_18 [.int (-1)] (by rfl) ?_
        have bw31 : ¬ (kTold (i 64) x1 x2 ∧ kFit x2 x3) := (fun z => absurd ((kFit_0 (ou11 w3)).mp z.2) (ou87 z30))
        exact ft_ret mi_k83 (by rfl) (hP (-1) _ _ _ _ hG ⟨trivial, ⟨(show ((-1) : Int32) = (cMend (i 64) x1 x2 x3 (a 2, a 3, a 4, a 5, i 70, i 71, i 72) (a 90, a 91, a 92, a 93, i 5700, i 5701)).1 from (by unfold cMend; simp only [if_neg bw31]; first | done | rfl | (simp only [sMn, sMx]; done) | (simp only [sMn, sMx]; rfl))), (show a 2 = ((cMend (i 64) x1 x2 x3 (a 2, a 3, a 4, a 5, i 70, i 71, i 72) (a 90, a 91, a 92, a 93, i 5700, i 5701)).2.1).1 from (by unfold cMend; simp only [if_neg bw31]; first | done | rfl | (simp only [sMn, sMx]; done) | (simp only [sMn, sMx]; rfl))), (show a 3 = ((cMend (i 64) x1 x2 x3 (a 2, a 3, a 4, a 5, i 70, i 71, i 72) (a 90, a 91, a 92, a 93, i 5700, i 5701)).2.1).2.1 from (by unfold cMend; simp only [if_neg bw31]; first | done | rfl | (simp only [sMn, sMx]; done) | (simp only [sMn, sMx]; rfl))), (show a 4 = ((cMend (i 64) x1 x2 x3 (a 2, a 3, a 4, a 5, i 70, i 71, i 72) (a 90, a 91, a 92, a 93, i 5700, i 5701)).2.1).2.2.1 from (by unfold cMend; simp only [if_neg bw31]; first | done | rfl | (simp only [sMn, sMx]; done) | (simp only [sMn, sMx]; rfl))), (show a 5 = ((cMend (i 64) x1 x2 x3 (a 2, a 3, a 4, a 5, i 70, i 71, i 72) (a 90, a 91, a 92, a 93, i 5700, i 5701)).2.1).2.2.2.1 from (by unfold cMend; simp only [if_neg bw31]; first | done | rfl | (simp only [sMn, sMx]; done) | (simp only [sMn, sMx]; rfl))), (show i 70 = ((cMend (i 64) x1 x2 x3 (a 2, a 3, a 4, a 5, i 70, i 71, i 72) (a 90, a 91, a 92, a 93, i 5700, i 5701)).2.1).2.2.2.2.1 from (by unfold cMend; simp only [if_neg bw31]; first | done | rfl | (simp only [sMn, sMx]; done) | (simp only [sMn, sMx]; rfl))), (show i 71 = ((cMend (i 64) x1 x2 x3 (a 2, a 3, a 4, a 5, i 70, i 71, i 72) (a 90, a 91, a 92, a 93, i 5700, i 5701)).2.1).2.2.2.2.2.1 from (by unfold cMend; simp only [if_neg bw31]; first | done | rfl | (simp only [sMn, sMx]; done) | (simp only [sMn, sMx]; rfl))), (show i 72 = ((cMend (i 64) x1 x2 x3 (a 2, a 3, a 4, a 5, i 70, i 71, i 72) (a 90, a 91, a 92, a 93, i 5700, i 5701)).2.1).2.2.2.2.2.2 from (by unfold cMend; simp only [if_neg bw31]; first | done | rfl | (simp only [sMn, sMx]; done) | (simp only [sMn, sMx]; rfl))), (show a 90 = ((cMend (i 64) x1 x2 x3 (a 2, a 3, a 4, a 5, i 70, i 71, i 72) (a 90, a 91, a 92, a 93, i 5700, i 5701)).2.2).1 from (by unfold cMend; simp only [if_neg bw31]; first | done | rfl | (simp only [sMn, sMx]; done) | (simp only [sMn, sMx]; rfl))), (show a 91 = ((cMend (i 64) x1 x2 x3 (a 2, a 3, a 4, a 5, i 70, i 71, i 72) (a 90, a 91, a 92, a 93, i 5700, i 5701)).2.2).2.1 from (by unfold cMend; simp only [if_neg bw31]; first | done | rfl | (simp only [sMn, sMx]; done) | (simp only [sMn, sMx]; rfl))), (show a 92 = ((cMend (i 64) x1 x2 x3 (a 2, a 3, a 4, a 5, i 70, i 71, i 72) (a 90, a 91, a 92, a 93, i 5700, i 5701)).2.2).2.2.1 from (by unfold cMend; simp only [if_neg bw31]; first | done | rfl | (simp only [sMn, sMx]; done) | (simp only [sMn, sMx]; rfl))), (show a 93 = ((cMend (i 64) x1 x2 x3 (a 2, a 3, a 4, a 5, i 70, i 71, i 72) (a 90, a 91, a 92, a 93, i 5700, i 5701)).2.2).2.2.2.1 from (by unfold cMend; simp only [if_neg bw31]; first | done | rfl | (simp only [sMn, sMx]; done) | (simp only [sMn, sMx]; rfl))), (show i 5700 = ((cMend (i 64) x1 x2 x3 (a 2, a 3, a 4, a 5, i 70, i 71, i 72) (a 90, a 91, a 92, a 93, i 5700, i 5701)).2.2).2.2.2.2.1 from (by unfold cMend; simp only [if_neg bw31]; first | done | rfl | (simp only [sMn, sMx]; done) | (simp only [sMn, sMx]; rfl))), (show i 5701 = ((cMend (i 64) x1 x2 x3 (a 2, a 3, a 4, a 5, i 70, i 71, i 72) (a 90, a 91, a 92, a 93, i 5700, i 5701)).2.2).2.2.2.2.2 from (by unfold cMend; simp only [if_neg bw31]; first | done | rfl | (simp only [sMn, sMx]; done) | (simp only [sMn, sMx]; rfl)))⟩⟩)
    by_cases w32 : x2.toInt = 1
    ·
      refine ko_eq (x1 := (11, [(0, .ref 0), (1, .int x1), (2, .int x2), (3, .int x3)], [.int x3, .int 1], (0, 0), ks i a q r)) (by rw [(kj_eq w32 (by decide) : x2 = 1)]) ?_
      refine ko_callPI mi_k83.1 (pc := 11) (ls := [(0, .ref 0), (1, .int x1), (2, .int x2), (3, .int x3)]) (st := [.int x3, .int 1]) (h := ks i a q r) (i := (.invokestatic 58, 3, 126, 0, 9, 0, 151)) (mi_k83.2 _ _ (by rfl)) (ft_invS mi_pq126 (by rfl)) (cy := mi_c126) mi_pq126 rfl (ke126_l01 hG.I hG.R x3) (by decide) ?_
      intro vg33 hg33
      rcases hg33 with ⟨eg33, hg33⟩ | ⟨eg33, hg33⟩
      ·
        subst eg33
        have z34 : ((0 : Int) ≤ x3.toInt) ∧ (x3.toInt ≤ 9) := hg33
        refine fo_goS mi_k83 fz83_14_5_25 [.int x2, .int x1, .ref 1] rfl ?_
        refine ko_callPI mi_k83.1 (pc := 25) (ls := [(0, .ref 0), (1, .int x1), (2, .int x2), (3, .int x3)]) (st := [.int x2, .int x1, .ref 1]) (h := ks i a q r) (i := (.invokevirtual 98, 3, 27, 0, 9, 0, 164)) (mi_k83.2 _ _ (by rfl)) (ft_invS mi_pq27 (by rfl)) (cy := mi_c27) mi_pq27 rfl (ke27_1 hG.I hG.R x1 x2) (by decide) ?_
        intro vg35 hg35
        obtain ⟨hg35, og35⟩ := hg35
        have q36 : vg35 = cGet (i 64) x1 x2 (a 2, a 3, a 4, a 5, i 70, i 71, i 72) := og35
        have u37 : vg35.toInt = (cGet (i 64) x1 x2 (a 2, a 3, a 4, a 5, i 70, i 71, i 72)).toInt := congrArg Int32.toInt q36
        refine fo_goL mi_k83 fz83_28_3_33 [(4, .int vg35), (0, .ref 0), (1, .int x1), (2, .int x2), (3, .int x3)] [.int x3, .int vg35] rfl ?_
        refine ft_ifS mi_k83 (vg35 == x3) 58 36 [] (by rfl) (fun c => ?_) (fun c => ?_)
        ·
          have c38 : vg35.toInt = x3.toInt := kd_eq c; clear c
          refine fo_goS mi_k83 fz83_58_1_60 [.int vg35] rfl ?_
          have bw39 : (kTold (i 64) x1 x2 ∧ kFit x2 x3) := ⟨(ou92 w32 z2), (kFit_1 (ou12 w32)).mpr (ou93 z34.1 z34.2)⟩
          have bw40 : (cGet (i 64) x1 x2 (a 2, a 3, a 4, a 5, i 70, i 71, i 72)).toInt = x3.toInt := (ou85 c38 u37)
          exact ft_ret mi_k83 (by rfl) (hP vg35 _ _ _ _ hG ⟨trivial, ⟨(show vg35 = (cMend (i 64) x1 x2 x3 (a 2, a 3, a 4, a 5, i 70, i 71, i 72) (a 90, a 91, a 92, a 93, i 5700, i 5701)).1 from (by unfold cMend; simp only [if_pos bw39, if_pos bw40]; first | done | rfl | (simp only [q36, sMn, sMx]; done) | (simp only [q36, sMn, sMx]; rfl))), (show a 2 = ((cMend (i 64) x1 x2 x3 (a 2, a 3, a 4, a 5, i 70, i 71, i 72) (a 90, a 91, a 92, a 93, i 5700, i 5701)).2.1).1 from (by unfold cMend; simp only [if_pos bw39, if_pos bw40]; first | done | rfl | (simp only [sMn, sMx]; done) | (simp only [sMn, sMx]; rfl))), (show a 3 = ((cMend (i 64) x1 x2 x3 (a 2, a 3, a 4, a 5, i 70, i 71, i 72) (a 90, a 91, a 92, a 93, i 5700, i 5701)).2.1).2.1 from (by unfold cMend; simp only [if_pos bw39, if_pos bw40]; first | done | rfl | (simp only [sMn, sMx]; done) | (simp only [sMn, sMx]; rfl))), (show a 4 = ((cMend (i 64) x1 x2 x3 (a 2, a 3, a 4, a 5, i 70, i 71, i 72) (a 90, a 91, a 92, a 93, i 5700, i 5701)).2.1).2.2.1 from (by unfold cMend; simp only [if_pos bw39, if_pos bw40]; first | done | rfl | (simp only [sMn, sMx]; done) | (simp only [sMn, sMx]; rfl))), (show a 5 = ((cMend (i 64) x1 x2 x3 (a 2, a 3, a 4, a 5, i 70, i 71, i 72) (a 90, a 91, a 92, a 93, i 5700, i 5701)).2.1).2.2.2.1 from (by unfold cMend; simp only [if_pos bw39, if_pos bw40]; first | done | rfl | (simp only [sMn, sMx]; done) | (simp only [sMn, sMx]; rfl))), (show i 70 = ((cMend (i 64) x1 x2 x3 (a 2, a 3, a 4, a 5, i 70, i 71, i 72) (a 90, a 91, a 92, a 93, i 5700, i 5701)).2.1).2.2.2.2.1 from (by unfold cMend; simp only [if_pos bw39, if_pos bw40]; first | done | rfl | (simp only [sMn, sMx]; done) | (simp only [sMn, sMx]; rfl))), (show i 71 = ((cMend (i 64) x1 x2 x3 (a 2, a 3, a 4, a 5, i 70, i 71, i 72) (a 90, a 91, a 92, a 93, i 5700, i 5701)).2.1).2.2.2.2.2.1 from (by unfold cMend; simp only [if_pos bw39, if_pos bw40]; first | done | rfl | (simp only [sMn, sMx]; done) | (simp only [sMn, sMx]; rfl))), (show i 72 = ((cMend (i 64) x1 x2 x3 (a 2, a 3, a 4, a 5, i 70, i 71, i 72) (a 90, a 91, a 92, a 93, i 5700, i 5701)).2.1).2.2.2.2.2.2 from (by unfold cMend; simp only [if_pos bw39, if_pos bw40]; first | done | rfl | (simp only [sMn, sMx]; done) | (simp only [sMn, sMx]; rfl))), (show a 90 = ((cMend (i 64) x1 x2 x3 (a 2, a 3, a 4, a 5, i 70, i 71, i 72) (a 90, a 91, a 92, a 93, i 5700, i 5701)).2.2).1 from (by unfold cMend; simp only [if_pos bw39, if_pos bw40]; first | done | rfl | (simp only [sMn, sMx]; done) | (simp only [sMn, sMx]; rfl))), (show a 91 = ((cMend (i 64) x1 x2 x3 (a 2, a 3, a 4, a 5, i 70, i 71, i 72) (a 90, a 91, a 92, a 93, i 5700, i 5701)).2.2).2.1 from (by unfold cMend; simp only [if_pos bw39, if_pos bw40]; first | done | rfl | (simp only [sMn, sMx]; done) | (simp only [sMn, sMx]; rfl))), (show a 92 = ((cMend (i 64) x1 x2 x3 (a 2, a 3, a 4, a 5, i 70, i 71, i 72) (a 90, a 91, a 92, a 93, i 5700, i 5701)).2.2).2.2.1 from (by unfold cMend; simp only [if_pos bw39, if_pos bw40]; first | done | rfl | (simp only [sMn, sMx]; done) | (simp only [sMn, sMx]; rfl))), (show a 93 = ((cMend (i 64) x1 x2 x3 (a 2, a 3, a 4, a 5, i 70, i 71, i 72) (a 90, a 91, a 92, a 93, i 5700, i 5701)).2.2).2.2.2.1 from (by unfold cMend; simp only [if_pos bw39, if_pos bw40]; first | done | rfl | (simp only [sMn, sMx]; done) | (simp only [sMn, sMx]; rfl))), (show i 5700 = ((cMend (i 64) x1 x2 x3 (a 2, a 3, a 4, a 5, i 70, i 71, i 72) (a 90, a 91, a 92, a 93, i 5700, i 5701)).2.2).2.2.2.2.1 from (by unfold cMend; simp only [if_pos bw39, if_pos bw40]; first | done | rfl | (simp only [sMn, sMx]; done) | (simp only [sMn, sMx]; rfl))), (show i 5701 = ((cMend (i 64) x1 x2 x3 (a 2, a 3, a 4, a 5, i 70, i 71, i 72) (a 90, a 91, a 92, a 93, i 5700, i 5701)).2.2).2.2.2.2.2 from (by unfold cMend; simp only [if_pos bw39, if_pos bw40]; first | done | rfl | (simp only [sMn, sMx]; done) | (simp only [sMn, sMx]; rfl)))⟩⟩)
        ·
          have c41 : vg35.toInt ≠ x3.toInt := kd_eqF c; clear c
          refine fo_goS mi_k83 fz83_36_5_43 [.int x3, .int x2, .int x1, .ref 1] rfl ?_
          refine ko_callN mi_k83.1 (pc := 43) (ls := [(4, .int vg35), (0, .ref 0), (1, .int x1), (2, .int x2), (3, .int x3)]) (st := [.int x3, .int x2, .int x1, .ref 1]) (h := ks i a q r) (i := (.invokevirtual 102, 3, 28, 0, 9, 0, 167)) (mi_k83.2 _ _ (by rfl)) (ft_invS mi_pq28 (by rfl)) (cy := mi_c28) mi_pq28 rfl (ke28_1 hG.I hG.R x1 x2 x3) (by decide) ?_
          intro ig42 ag42 qg42 rg42 kg42 hg42
          have hGg42 := kG_call hG kg42 (by decide +kernel)
          obtain ⟨hg42, og42⟩ := hg42
          have q43 : ag42 2 = (cSet (i 64) x1 x2 x3 (a 2, a 3, a 4, a 5, i 70, i 71, i 72)).1 := og42.1
          have q44 : ag42 3 = (cSet (i 64) x1 x2 x3 (a 2, a 3, a 4, a 5, i 70, i 71, i 72)).2.1 := og42.2.1
          have q45 : ag42 4 = (cSet (i 64) x1 x2 x3 (a 2, a 3, a 4, a 5, i 70, i 71, i 72)).2.2.1 := og42.2.2.1
          have q46 : ag42 5 = (cSet (i 64) x1 x2 x3 (a 2, a 3, a 4, a 5, i 70, i 71, i 72)).2.2.2.1 := og42.2.2.2.1
          have q47 : ig42 70 = (cSet (i 64) x1 x2 x3 (a 2, a 3, a 4, a 5, i 70, i 71, i 72)).2.2.2.2.1 := og42.2.2.2.2.1
          have q48 : ig42 71 = (cSet (i 64) x1 x2 x3 (a 2, a 3, a 4, a 5, i 70, i 71, i 72)).2.2.2.2.2.1 := og42.2.2.2.2.2.1
          have q49 : ig42 72 = (cSet (i 64) x1 x2 x3 (a 2, a 3, a 4, a 5, i 70, i 71, i 72)).2.2.2.2.2.2 := og42.2.2.2.2.2.2
          refine fo_goS mi_k83 fz83_46_6_55 [.int x3, .int vg35, .int x2, .int x1, .ref 89] rfl ?_
          refine ko_callN mi_k83.1 (pc := 55) (ls := [(4, .int vg35), (0, .ref 0), (1, .int x1), (2, .int x2), (3, .int x3)]) (st := [.int x3, .int vg35, .int x2, .int x1, .ref 89]) (h := ks ig42 ag42 qg42 rg42) (i := (.invokevirtual 106, 3, 5, 0, 9, 0, 168)) (mi_k83.2 _ _ (by rfl)) (ft_invS mi_pq5 (by rfl)) (cy := mi_c5) mi_pq5 rfl (ke5_89 hGg42.I hGg42.R x1 x2 vg35 x3) (by decide) ?_
          intro ig50 ag50 qg50 rg50 kg50 hg50
          have hGg50 := kG_call hGg42 kg50 (by decide +kernel)
          obtain ⟨hg50, og50⟩ := hg50
          have q51 : ag50 90 = (nAdd x1 x2 vg35 x3 (ag42 90, ag42 91, ag42 92, ag42 93, ig42 5700, ig42 5701)).1 := og50.1
          have q52 : ag50 91 = (nAdd x1 x2 vg35 x3 (ag42 90, ag42 91, ag42 92, ag42 93, ig42 5700, ig42 5701)).2.1 := og50.2.1
          have q53 : ag50 92 = (nAdd x1 x2 vg35 x3 (ag42 90, ag42 91, ag42 92, ag42 93, ig42 5700, ig42 5701)).2.2.1 := og50.2.2.1
          have q54 : ag50 93 = (nAdd x1 x2 vg35 x3 (ag42 90, ag42 91, ag42 92, ag42 93, ig42 5700, ig42 5701)).2.2.2.1 := og50.2.2.2.1
          have q55 : ig50 5700 = (nAdd x1 x2 vg35 x3 (ag42 90, ag42 91, ag42 92, ag42 93, ig42 5700, ig42 5701)).2.2.2.2.1 := og50.2.2.2.2.1
          have q56 : ig50 5701 = (nAdd x1 x2 vg35 x3 (ag42 90, ag42 91, ag42 92, ag42 93, ig42 5700, ig42 5701)).2.2.2.2.2 := og50.2.2.2.2.2
          refine fo_goS mi_k83 fz83_58_1_60 [.int vg35] rfl ?_
          have bw57 : (kTold (i 64) x1 x2 ∧ kFit x2 x3) := ⟨(ou92 w32 z2), (kFit_1 (ou12 w32)).mpr (ou93 z34.1 z34.2)⟩
          have bw58 : ¬ ((cGet (i 64) x1 x2 (a 2, a 3, a 4, a 5, i 70, i 71, i 72)).toInt = x3.toInt) := (ou86 c41 u37)
          exact ft_ret mi_k83 (by rfl) (hP vg35 _ _ _ _ hGg50 ⟨trivial, ⟨(show vg35 = (cMend (i 64) x1 x2 x3 (a 2, a 3, a 4, a 5, i 70, i 71, i 72) (a 90, a 91, a 92, a 93, i 5700, i 5701)).1 from (by unfold cMend; simp only [if_pos bw57, if_neg bw58]; first | done | rfl | (simp only [q36, sMn, sMx]; done) | (simp only [q36, sMn, sMx]; rfl))), (show ag50 2 = ((cMend (i 64) x1 x2 x3 (a 2, a 3, a 4, a 5, i 70, i 71, i 72) (a 90, a 91, a 92, a 93, i 5700, i 5701)).2.1).1 from (by unfold cMend; simp only [if_pos bw57, if_neg bw58]; first | done | rfl | (simp only [kg50.fa 2 rfl, q43, sMn, sMx]; done) | (simp only [kg50.fa 2 rfl, q43, sMn, sMx]; rfl))), (show ag50 3 = ((cMend (i 64) x1 x2 x3 (a 2, a 3, a 4, a 5, i 70, i 71, i 72) (a 90, a 91, a 92, a 93, i 5700, i 5701)).2.1).2.1 from (by unfold cMend; simp only [if_pos bw57, if_neg bw58]; first | done | rfl | (simp only [kg50.fa 3 rfl, q44, sMn, sMx]; done) | (simp only [kg50.fa 3 rfl, q44, sMn, sMx]; rfl))), (show ag50 4 = ((cMend (i 64) x1 x2 x3 (a 2, a 3, a 4, a 5, i 70, i 71, i 72) (a 90, a 91, a 92, a 93, i 5700, i 5701)).2.1).2.2.1 from (by unfold cMend; simp only [if_pos bw57, if_neg bw58]; first | done | rfl | (simp only [kg50.fa 4 rfl, q45, sMn, sMx]; done) | (simp only [kg50.fa 4 rfl, q45, sMn, sMx]; rfl))), (show ag50 5 = ((cMend (i 64) x1 x2 x3 (a 2, a 3, a 4, a 5, i 70, i 71, i 72) (a 90, a 91, a 92, a 93, i 5700, i 5701)).2.1).2.2.2.1 from (by unfold cMend; simp only [if_pos bw57, if_neg bw58]; first | done | rfl | (simp only [kg50.fa 5 rfl, q46, sMn, sMx]; done) | (simp only [kg50.fa 5 rfl, q46, sMn, sMx]; rfl))), (show ig50 70 = ((cMend (i 64) x1 x2 x3 (a 2, a 3, a 4, a 5, i 70, i 71, i 72) (a 90, a 91, a 92, a 93, i 5700, i 5701)).2.1).2.2.2.2.1 from (by unfold cMend; simp only [if_pos bw57, if_neg bw58]; first | done | rfl | (simp only [(show ig50 70 = ig42 70 from kg50.fi 70 rfl), q47, sMn, sMx]; done) | (simp only [(show ig50 70 = ig42 70 from kg50.fi 70 rfl), q47, sMn, sMx]; rfl))), (show ig50 71 = ((cMend (i 64) x1 x2 x3 (a 2, a 3, a 4, a 5, i 70, i 71, i 72) (a 90, a 91, a 92, a 93, i 5700, i 5701)).2.1).2.2.2.2.2.1 from (by unfold cMend; simp only [if_pos bw57, if_neg bw58]; first | done | rfl | (simp only [(show ig50 71 = ig42 71 from kg50.fi 71 rfl), q48, sMn, sMx]; done) | (simp only [(show ig50 71 = ig42 71 from kg50.fi 71 rfl), q48, sMn, sMx]; rfl))), (show ig50 72 = ((cMend (i 64) x1 x2 x3 (a 2, a 3, a 4, a 5, i 70, i 71, i 72) (a 90, a 91, a 92, a 93, i 5700, i 5701)).2.1).2.2.2.2.2.2 from (by unfold cMend; simp only [if_pos bw57, if_neg bw58]; first | done | rfl | (simp only [(show ig50 72 = ig42 72 from kg50.fi 72 rfl), q49, sMn, sMx]; done) | (simp only [(show ig50 72 = ig42 72 from kg50.fi 72 rfl), q49, sMn, sMx]; rfl))), (show ag50 90 = ((cMend (i 64) x1 x2 x3 (a 2, a 3, a 4, a 5, i 70, i 71, i 72) (a 90, a 91, a 92, a 93, i 5700, i 5701)).2.2).1 from (by unfold cMend; simp only [if_pos bw57, if_neg bw58]; first | done | rfl | (simp only [q51, q36, kg42.fa 90 rfl, kg42.fa 91 rfl, kg42.fa 92 rfl, kg42.fa 93 rfl, (show ig42 5700 = i 5700 from kg42.fi 5700 rfl), (show ig42 5701 = i 5701 from kg42.fi 5701 rfl), sMn, sMx]; done) | (simp only [q51, q36, kg42.fa 90 rfl, kg42.fa 91 rfl, kg42.fa 92 rfl, kg42.fa 93 rfl, (show ig42 5700 = i 5700 from kg42.fi 5700 rfl), (show ig42 5701 = i 5701 from kg42.fi 5701 rfl), sMn, sMx]; rfl))), (show ag50 91 = ((cMend (i 64) x1 x2 x3 (a 2, a 3, a 4, a 5, i 70, i 71, i 72) (a 90, a 91, a 92, a 93, i 5700, i 5701)).2.2).2.1 from (by unfold cMend; simp only [if_pos bw57, if_neg bw58]; first | done | rfl | (simp only [q52, q36, kg42.fa 90 rfl, kg42.fa 91 rfl, kg42.fa 92 rfl, kg42.fa 93 rfl, (show ig42 5700 = i 5700 from kg42.fi 5700 rfl), (show ig42 5701 = i 5701 from kg42.fi 5701 rfl), sMn, sMx]; done) | (simp only [q52, q36, kg42.fa 90 rfl, kg42.fa 91 rfl, kg42.fa 92 rfl, kg42.fa 93 rfl, (show ig42 5700 = i 5700 from kg42.fi 5700 rfl), (show ig42 5701 = i 5701 from kg42.fi 5701 rfl), sMn, sMx]; rfl))), (show ag50 92 = ((cMend (i 64) x1 x2 x3 (a 2, a 3, a 4, a 5, i 70, i 71, i 72) (a 90, a 91, a 92, a 93, i 5700, i 5701)).2.2).2.2.1 from (by unfold cMend; simp only [if_pos bw57, if_neg bw58]; first | done | rfl | (simp only [q53, q36, kg42.fa 90 rfl, kg42.fa 91 rfl, kg42.fa 92 rfl, kg42.fa 93 rfl, (show ig42 5700 = i 5700 from kg42.fi 5700 rfl), (show ig42 5701 = i 5701 from kg42.fi 5701 rfl), sMn, sMx]; done) | (simp only [q53, q36, kg42.fa 90 rfl, kg42.fa 91 rfl, kg42.fa 92 rfl, kg42.fa 93 rfl, (show ig42 5700 = i 5700 from kg42.fi 5700 rfl), (show ig42 5701 = i 5701 from kg42.fi 5701 rfl), sMn, sMx]; rfl))), (show ag50 93 = ((cMend (i 64) x1 x2 x3 (a 2, a 3, a 4, a 5, i 70, i 71, i 72) (a 90, a 91, a 92, a 93, i 5700, i 5701)).2.2).2.2.2.1 from (by unfold cMend; simp only [if_pos bw57, if_neg bw58]; first | done | rfl | (simp only [q54, q36, kg42.fa 90 rfl, kg42.fa 91 rfl, kg42.fa 92 rfl, kg42.fa 93 rfl, (show ig42 5700 = i 5700 from kg42.fi 5700 rfl), (show ig42 5701 = i 5701 from kg42.fi 5701 rfl), sMn, sMx]; done) | (simp only [q54, q36, kg42.fa 90 rfl, kg42.fa 91 rfl, kg42.fa 92 rfl, kg42.fa 93 rfl, (show ig42 5700 = i 5700 from kg42.fi 5700 rfl), (show ig42 5701 = i 5701 from kg42.fi 5701 rfl), sMn, sMx]; rfl))), (show ig50 5700 = ((cMend (i 64) x1 x2 x3 (a 2, a 3, a 4, a 5, i 70, i 71, i 72) (a 90, a 91, a 92, a 93, i 5700, i 5701)).2.2).2.2.2.2.1 from (by unfold cMend; simp only [if_pos bw57, if_neg bw58]; first | done | rfl | (simp only [q55, q36, kg42.fa 90 rfl, kg42.fa 91 rfl, kg42.fa 92 rfl, kg42.fa 93 rfl, (show ig42 5700 = i 5700 from kg42.fi 5700 rfl), (show ig42 5701 = i 5701 from kg42.fi 5701 rfl), sMn, sMx]; done) | (simp only [q55, q36, kg42.fa 90 rfl, kg42.fa 91 rfl, kg42.fa 92 rfl, kg42.fa 93 rfl, (show ig42 5700 = i 5700 from kg42.fi 5700 rfl), (show ig42 5701 = i 5701 from kg42.fi 5701 rfl), sMn, sMx]; rfl))), (show ig50 5701 = ((cMend (i 64) x1 x2 x3 (a 2, a 3, a 4, a 5, i 70, i 71, i 72) (a 90, a 91, a 92, a 93, i 5700, i 5701)).2.2).2.2.2.2.2 from (by unfold cMend; simp only [if_pos bw57, if_neg bw58]; first | done | rfl | (simp only [q56, q36, kg42.fa 90 rfl, kg42.fa 91 rfl, kg42.fa 92 rfl, kg42.fa 93 rfl, (show ig42 5700 = i 5700 from kg42.fi 5700 rfl), (show ig42 5701 = i 5701 from kg42.fi 5701 rfl), sMn, sMx]; done) | (simp only [q56, q36, kg42.fa 90 rfl, kg42.fa 91 rfl, kg42.fa 92 rfl, kg42.fa 93 rfl, (show ig42 5700 = i 5700 from kg42.fi 5700 rfl), (show ig42 5701 = i 5701 from kg42.fi 5701 rfl), sMn, sMx]; rfl)))⟩⟩)
      ·
        subst eg33
        have z59 : ¬ (((0 : Int) ≤ x3.toInt) ∧ (x3.toInt ≤ 9)) := hg33
        first | refine fo_goS mi_k83 fz83_6_2_18 [.int (-1)] (by rfl) ?_ | refine fo_goS mi_k83 fz83_14_2_18 [.int (-1)] (by rfl) ?_
        have bw60 : ¬ (kTold (i 64) x1 x2 ∧ kFit x2 x3) := (fun z => absurd ((kFit_1 (ou12 w32)).mp z.2) (ou94 z59))
        exact ft_ret mi_k83 (by rfl) (hP (-1) _ _ _ _ hG ⟨trivial, ⟨(show ((-1) : Int32) = (cMend (i 64) x1 x2 x3 (a 2, a 3, a 4, a 5, i 70, i 71, i 72) (a 90, a 91, a 92, a 93, i 5700, i 5701)).1 from (by unfold cMend; simp only [if_neg bw60]; first | done | rfl | (simp only [sMn, sMx]; done) | (simp only [sMn, sMx]; rfl))), (show a 2 = ((cMend (i 64) x1 x2 x3 (a 2, a 3, a 4, a 5, i 70, i 71, i 72) (a 90, a 91, a 92, a 93, i 5700, i 5701)).2.1).1 from (by unfold cMend; simp only [if_neg bw60]; first | done | rfl | (simp only [sMn, sMx]; done) | (simp only [sMn, sMx]; rfl))), (show a 3 = ((cMend (i 64) x1 x2 x3 (a 2, a 3, a 4, a 5, i 70, i 71, i 72) (a 90, a 91, a 92, a 93, i 5700, i 5701)).2.1).2.1 from (by unfold cMend; simp only [if_neg bw60]; first | done | rfl | (simp only [sMn, sMx]; done) | (simp only [sMn, sMx]; rfl))), (show a 4 = ((cMend (i 64) x1 x2 x3 (a 2, a 3, a 4, a 5, i 70, i 71, i 72) (a 90, a 91, a 92, a 93, i 5700, i 5701)).2.1).2.2.1 from (by unfold cMend; simp only [if_neg bw60]; first | done | rfl | (simp only [sMn, sMx]; done) | (simp only [sMn, sMx]; rfl))), (show a 5 = ((cMend (i 64) x1 x2 x3 (a 2, a 3, a 4, a 5, i 70, i 71, i 72) (a 90, a 91, a 92, a 93, i 5700, i 5701)).2.1).2.2.2.1 from (by unfold cMend; simp only [if_neg bw60]; first | done | rfl | (simp only [sMn, sMx]; done) | (simp only [sMn, sMx]; rfl))), (show i 70 = ((cMend (i 64) x1 x2 x3 (a 2, a 3, a 4, a 5, i 70, i 71, i 72) (a 90, a 91, a 92, a 93, i 5700, i 5701)).2.1).2.2.2.2.1 from (by unfold cMend; simp only [if_neg bw60]; first | done | rfl | (simp only [sMn, sMx]; done) | (simp only [sMn, sMx]; rfl))), (show i 71 = ((cMend (i 64) x1 x2 x3 (a 2, a 3, a 4, a 5, i 70, i 71, i 72) (a 90, a 91, a 92, a 93, i 5700, i 5701)).2.1).2.2.2.2.2.1 from (by unfold cMend; simp only [if_neg bw60]; first | done | rfl | (simp only [sMn, sMx]; done) | (simp only [sMn, sMx]; rfl))), (show i 72 = ((cMend (i 64) x1 x2 x3 (a 2, a 3, a 4, a 5, i 70, i 71, i 72) (a 90, a 91, a 92, a 93, i 5700, i 5701)).2.1).2.2.2.2.2.2 from (by unfold cMend; simp only [if_neg bw60]; first | done | rfl | (simp only [sMn, sMx]; done) | (simp only [sMn, sMx]; rfl))), (show a 90 = ((cMend (i 64) x1 x2 x3 (a 2, a 3, a 4, a 5, i 70, i 71, i 72) (a 90, a 91, a 92, a 93, i 5700, i 5701)).2.2).1 from (by unfold cMend; simp only [if_neg bw60]; first | done | rfl | (simp only [sMn, sMx]; done) | (simp only [sMn, sMx]; rfl))), (show a 91 = ((cMend (i 64) x1 x2 x3 (a 2, a 3, a 4, a 5, i 70, i 71, i 72) (a 90, a 91, a 92, a 93, i 5700, i 5701)).2.2).2.1 from (by unfold cMend; simp only [if_neg bw60]; first | done | rfl | (simp only [sMn, sMx]; done) | (simp only [sMn, sMx]; rfl))), (show a 92 = ((cMend (i 64) x1 x2 x3 (a 2, a 3, a 4, a 5, i 70, i 71, i 72) (a 90, a 91, a 92, a 93, i 5700, i 5701)).2.2).2.2.1 from (by unfold cMend; simp only [if_neg bw60]; first | done | rfl | (simp only [sMn, sMx]; done) | (simp only [sMn, sMx]; rfl))), (show a 93 = ((cMend (i 64) x1 x2 x3 (a 2, a 3, a 4, a 5, i 70, i 71, i 72) (a 90, a 91, a 92, a 93, i 5700, i 5701)).2.2).2.2.2.1 from (by unfold cMend; simp only [if_neg bw60]; first | done | rfl | (simp only [sMn, sMx]; done) | (simp only [sMn, sMx]; rfl))), (show i 5700 = ((cMend (i 64) x1 x2 x3 (a 2, a 3, a 4, a 5, i 70, i 71, i 72) (a 90, a 91, a 92, a 93, i 5700, i 5701)).2.2).2.2.2.2.1 from (by unfold cMend; simp only [if_neg bw60]; first | done | rfl | (simp only [sMn, sMx]; done) | (simp only [sMn, sMx]; rfl))), (show i 5701 = ((cMend (i 64) x1 x2 x3 (a 2, a 3, a 4, a 5, i 70, i 71, i 72) (a 90, a 91, a 92, a 93, i 5700, i 5701)).2.2).2.2.2.2.2 from (by unfold cMend; simp only [if_neg bw60]; first | done | rfl | (simp only [sMn, sMx]; done) | (simp only [sMn, sMx]; rfl)))⟩⟩)
    by_cases w61 : x2.toInt = 2
    ·
      refine ko_eq (x1 := (11, [(0, .ref 0), (1, .int x1), (2, .int x2), (3, .int x3)], [.int x3, .int 2], (0, 0), ks i a q r)) (by rw [(kj_eq w61 (by decide) : x2 = 2)]) ?_
      refine ko_callPI mi_k83.1 (pc := 11) (ls := [(0, .ref 0), (1, .int x1), (2, .int x2), (3, .int x3)]) (st := [.int x3, .int 2]) (h := ks i a q r) (i := (.invokestatic 58, 3, 126, 0, 9, 0, 151)) (mi_k83.2 _ _ (by rfl)) (ft_invS mi_pq126 (by rfl)) (cy := mi_c126) mi_pq126 rfl (ke126_l02 hG.I hG.R x3) (by decide) ?_
      intro vg62 hg62
      rcases hg62 with ⟨eg62, hg62⟩ | ⟨eg62, hg62⟩
      ·
        subst eg62
        have z63 : ((0 : Int) ≤ x3.toInt) ∧ (x3.toInt ≤ 9) := hg62
        refine fo_goS mi_k83 fz83_14_5_25 [.int x2, .int x1, .ref 1] rfl ?_
        refine ko_callPI mi_k83.1 (pc := 25) (ls := [(0, .ref 0), (1, .int x1), (2, .int x2), (3, .int x3)]) (st := [.int x2, .int x1, .ref 1]) (h := ks i a q r) (i := (.invokevirtual 98, 3, 27, 0, 9, 0, 164)) (mi_k83.2 _ _ (by rfl)) (ft_invS mi_pq27 (by rfl)) (cy := mi_c27) mi_pq27 rfl (ke27_1 hG.I hG.R x1 x2) (by decide) ?_
        intro vg64 hg64
        obtain ⟨hg64, og64⟩ := hg64
        have q65 : vg64 = cGet (i 64) x1 x2 (a 2, a 3, a 4, a 5, i 70, i 71, i 72) := og64
        have u66 : vg64.toInt = (cGet (i 64) x1 x2 (a 2, a 3, a 4, a 5, i 70, i 71, i 72)).toInt := congrArg Int32.toInt q65
        refine fo_goL mi_k83 fz83_28_3_33 [(4, .int vg64), (0, .ref 0), (1, .int x1), (2, .int x2), (3, .int x3)] [.int x3, .int vg64] rfl ?_
        refine ft_ifS mi_k83 (vg64 == x3) 58 36 [] (by rfl) (fun c => ?_) (fun c => ?_)
        ·
          have c67 : vg64.toInt = x3.toInt := kd_eq c; clear c
          refine fo_goS mi_k83 fz83_58_1_60 [.int vg64] rfl ?_
          have bw68 : (kTold (i 64) x1 x2 ∧ kFit x2 x3) := ⟨(ou98 w61 z2), (kFit_2 (ou13 w61)).mpr (ou93 z63.1 z63.2)⟩
          have bw69 : (cGet (i 64) x1 x2 (a 2, a 3, a 4, a 5, i 70, i 71, i 72)).toInt = x3.toInt := (ou85 c67 u66)
          exact ft_ret mi_k83 (by rfl) (hP vg64 _ _ _ _ hG ⟨trivial, ⟨(show vg64 = (cMend (i 64) x1 x2 x3 (a 2, a 3, a 4, a 5, i 70, i 71, i 72) (a 90, a 91, a 92, a 93, i 5700, i 5701)).1 from (by unfold cMend; simp only [if_pos bw68, if_pos bw69]; first | done | rfl | (simp only [q65, sMn, sMx]; done) | (simp only [q65, sMn, sMx]; rfl))), (show a 2 = ((cMend (i 64) x1 x2 x3 (a 2, a 3, a 4, a 5, i 70, i 71, i 72) (a 90, a 91, a 92, a 93, i 5700, i 5701)).2.1).1 from (by unfold cMend; simp only [if_pos bw68, if_pos bw69]; first | done | rfl | (simp only [sMn, sMx]; done) | (simp only [sMn, sMx]; rfl))), (show a 3 = ((cMend (i 64) x1 x2 x3 (a 2, a 3, a 4, a 5, i 70, i 71, i 72) (a 90, a 91, a 92, a 93, i 5700, i 5701)).2.1).2.1 from (by unfold cMend; simp only [if_pos bw68, if_pos bw69]; first | done | rfl | (simp only [sMn, sMx]; done) | (simp only [sMn, sMx]; rfl))), (show a 4 = ((cMend (i 64) x1 x2 x3 (a 2, a 3, a 4, a 5, i 70, i 71, i 72) (a 90, a 91, a 92, a 93, i 5700, i 5701)).2.1).2.2.1 from (by unfold cMend; simp only [if_pos bw68, if_pos bw69]; first | done | rfl | (simp only [sMn, sMx]; done) | (simp only [sMn, sMx]; rfl))), (show a 5 = ((cMend (i 64) x1 x2 x3 (a 2, a 3, a 4, a 5, i 70, i 71, i 72) (a 90, a 91, a 92, a 93, i 5700, i 5701)).2.1).2.2.2.1 from (by unfold cMend; simp only [if_pos bw68, if_pos bw69]; first | done | rfl | (simp only [sMn, sMx]; done) | (simp only [sMn, sMx]; rfl))), (show i 70 = ((cMend (i 64) x1 x2 x3 (a 2, a 3, a 4, a 5, i 70, i 71, i 72) (a 90, a 91, a 92, a 93, i 5700, i 5701)).2.1).2.2.2.2.1 from (by unfold cMend; simp only [if_pos bw68, if_pos bw69]; first | done | rfl | (simp only [sMn, sMx]; done) | (simp only [sMn, sMx]; rfl))), (show i 71 = ((cMend (i 64) x1 x2 x3 (a 2, a 3, a 4, a 5, i 70, i 71, i 72) (a 90, a 91, a 92, a 93, i 5700, i 5701)).2.1).2.2.2.2.2.1 from (by unfold cMend; simp only [if_pos bw68, if_pos bw69]; first | done | rfl | (simp only [sMn, sMx]; done) | (simp only [sMn, sMx]; rfl))), (show i 72 = ((cMend (i 64) x1 x2 x3 (a 2, a 3, a 4, a 5, i 70, i 71, i 72) (a 90, a 91, a 92, a 93, i 5700, i 5701)).2.1).2.2.2.2.2.2 from (by unfold cMend; simp only [if_pos bw68, if_pos bw69]; first | done | rfl | (simp only [sMn, sMx]; done) | (simp only [sMn, sMx]; rfl))), (show a 90 = ((cMend (i 64) x1 x2 x3 (a 2, a 3, a 4, a 5, i 70, i 71, i 72) (a 90, a 91, a 92, a 93, i 5700, i 5701)).2.2).1 from (by unfold cMend; simp only [if_pos bw68, if_pos bw69]; first | done | rfl | (simp only [sMn, sMx]; done) | (simp only [sMn, sMx]; rfl))), (show a 91 = ((cMend (i 64) x1 x2 x3 (a 2, a 3, a 4, a 5, i 70, i 71, i 72) (a 90, a 91, a 92, a 93, i 5700, i 5701)).2.2).2.1 from (by unfold cMend; simp only [if_pos bw68, if_pos bw69]; first | done | rfl | (simp only [sMn, sMx]; done) | (simp only [sMn, sMx]; rfl))), (show a 92 = ((cMend (i 64) x1 x2 x3 (a 2, a 3, a 4, a 5, i 70, i 71, i 72) (a 90, a 91, a 92, a 93, i 5700, i 5701)).2.2).2.2.1 from (by unfold cMend; simp only [if_pos bw68, if_pos bw69]; first | done | rfl | (simp only [sMn, sMx]; done) | (simp only [sMn, sMx]; rfl))), (show a 93 = ((cMend (i 64) x1 x2 x3 (a 2, a 3, a 4, a 5, i 70, i 71, i 72) (a 90, a 91, a 92, a 93, i 5700, i 5701)).2.2).2.2.2.1 from (by unfold cMend; simp only [if_pos bw68, if_pos bw69]; first | done | rfl | (simp only [sMn, sMx]; done) | (simp only [sMn, sMx]; rfl))), (show i 5700 = ((cMend (i 64) x1 x2 x3 (a 2, a 3, a 4, a 5, i 70, i 71, i 72) (a 90, a 91, a 92, a 93, i 5700, i 5701)).2.2).2.2.2.2.1 from (by unfold cMend; simp only [if_pos bw68, if_pos bw69]; first | done | rfl | (simp only [sMn, sMx]; done) | (simp only [sMn, sMx]; rfl))), (show i 5701 = ((cMend (i 64) x1 x2 x3 (a 2, a 3, a 4, a 5, i 70, i 71, i 72) (a 90, a 91, a 92, a 93, i 5700, i 5701)).2.2).2.2.2.2.2 from (by unfold cMend; simp only [if_pos bw68, if_pos bw69]; first | done | rfl | (simp only [sMn, sMx]; done) | (simp only [sMn, sMx]; rfl)))⟩⟩)
        ·
          have c70 : vg64.toInt ≠ x3.toInt := kd_eqF c; clear c
          refine fo_goS mi_k83 fz83_36_5_43 [.int x3, .int x2, .int x1, .ref 1] rfl ?_
          refine ko_callN mi_k83.1 (pc := 43) (ls := [(4, .int vg64), (0, .ref 0), (1, .int x1), (2, .int x2), (3, .int x3)]) (st := [.int x3, .int x2, .int x1, .ref 1]) (h := ks i a q r) (i := (.invokevirtual 102, 3, 28, 0, 9, 0, 167)) (mi_k83.2 _ _ (by rfl)) (ft_invS mi_pq28 (by rfl)) (cy := mi_c28) mi_pq28 rfl (ke28_1 hG.I hG.R x1 x2 x3) (by decide) ?_
          intro ig71 ag71 qg71 rg71 kg71 hg71
          have hGg71 := kG_call hG kg71 (by decide +kernel)
          obtain ⟨hg71, og71⟩ := hg71
          have q72 : ag71 2 = (cSet (i 64) x1 x2 x3 (a 2, a 3, a 4, a 5, i 70, i 71, i 72)).1 := og71.1
          have q73 : ag71 3 = (cSet (i 64) x1 x2 x3 (a 2, a 3, a 4, a 5, i 70, i 71, i 72)).2.1 := og71.2.1
          have q74 : ag71 4 = (cSet (i 64) x1 x2 x3 (a 2, a 3, a 4, a 5, i 70, i 71, i 72)).2.2.1 := og71.2.2.1
          have q75 : ag71 5 = (cSet (i 64) x1 x2 x3 (a 2, a 3, a 4, a 5, i 70, i 71, i 72)).2.2.2.1 := og71.2.2.2.1
          have q76 : ig71 70 = (cSet (i 64) x1 x2 x3 (a 2, a 3, a 4, a 5, i 70, i 71, i 72)).2.2.2.2.1 := og71.2.2.2.2.1
          have q77 : ig71 71 = (cSet (i 64) x1 x2 x3 (a 2, a 3, a 4, a 5, i 70, i 71, i 72)).2.2.2.2.2.1 := og71.2.2.2.2.2.1
          have q78 : ig71 72 = (cSet (i 64) x1 x2 x3 (a 2, a 3, a 4, a 5, i 70, i 71, i 72)).2.2.2.2.2.2 := og71.2.2.2.2.2.2
          refine fo_goS mi_k83 fz83_46_6_55 [.int x3, .int vg64, .int x2, .int x1, .ref 89] rfl ?_
          refine ko_callN mi_k83.1 (pc := 55) (ls := [(4, .int vg64), (0, .ref 0), (1, .int x1), (2, .int x2), (3, .int x3)]) (st := [.int x3, .int vg64, .int x2, .int x1, .ref 89]) (h := ks ig71 ag71 qg71 rg71) (i := (.invokevirtual 106, 3, 5, 0, 9, 0, 168)) (mi_k83.2 _ _ (by rfl)) (ft_invS mi_pq5 (by rfl)) (cy := mi_c5) mi_pq5 rfl (ke5_89 hGg71.I hGg71.R x1 x2 vg64 x3) (by decide) ?_
          intro ig79 ag79 qg79 rg79 kg79 hg79
          have hGg79 := kG_call hGg71 kg79 (by decide +kernel)
          obtain ⟨hg79, og79⟩ := hg79
          have q80 : ag79 90 = (nAdd x1 x2 vg64 x3 (ag71 90, ag71 91, ag71 92, ag71 93, ig71 5700, ig71 5701)).1 := og79.1
          have q81 : ag79 91 = (nAdd x1 x2 vg64 x3 (ag71 90, ag71 91, ag71 92, ag71 93, ig71 5700, ig71 5701)).2.1 := og79.2.1
          have q82 : ag79 92 = (nAdd x1 x2 vg64 x3 (ag71 90, ag71 91, ag71 92, ag71 93, ig71 5700, ig71 5701)).2.2.1 := og79.2.2.1
          have q83 : ag79 93 = (nAdd x1 x2 vg64 x3 (ag71 90, ag71 91, ag71 92, ag71 93, ig71 5700, ig71 5701)).2.2.2.1 := og79.2.2.2.1
          have q84 : ig79 5700 = (nAdd x1 x2 vg64 x3 (ag71 90, ag71 91, ag71 92, ag71 93, ig71 5700, ig71 5701)).2.2.2.2.1 := og79.2.2.2.2.1
          have q85 : ig79 5701 = (nAdd x1 x2 vg64 x3 (ag71 90, ag71 91, ag71 92, ag71 93, ig71 5700, ig71 5701)).2.2.2.2.2 := og79.2.2.2.2.2
          refine fo_goS mi_k83 fz83_58_1_60 [.int vg64] rfl ?_
          have bw86 : (kTold (i 64) x1 x2 ∧ kFit x2 x3) := ⟨(ou98 w61 z2), (kFit_2 (ou13 w61)).mpr (ou93 z63.1 z63.2)⟩
          have bw87 : ¬ ((cGet (i 64) x1 x2 (a 2, a 3, a 4, a 5, i 70, i 71, i 72)).toInt = x3.toInt) := (ou86 c70 u66)
          exact ft_ret mi_k83 (by rfl) (hP vg64 _ _ _ _ hGg79 ⟨trivial, ⟨(show vg64 = (cMend (i 64) x1 x2 x3 (a 2, a 3, a 4, a 5, i 70, i 71, i 72) (a 90, a 91, a 92, a 93, i 5700, i 5701)).1 from (by unfold cMend; simp only [if_pos bw86, if_neg bw87]; first | done | rfl | (simp only [q65, sMn, sMx]; done) | (simp only [q65, sMn, sMx]; rfl))), (show ag79 2 = ((cMend (i 64) x1 x2 x3 (a 2, a 3, a 4, a 5, i 70, i 71, i 72) (a 90, a 91, a 92, a 93, i 5700, i 5701)).2.1).1 from (by unfold cMend; simp only [if_pos bw86, if_neg bw87]; first | done | rfl | (simp only [kg79.fa 2 rfl, q72, sMn, sMx]; done) | (simp only [kg79.fa 2 rfl, q72, sMn, sMx]; rfl))), (show ag79 3 = ((cMend (i 64) x1 x2 x3 (a 2, a 3, a 4, a 5, i 70, i 71, i 72) (a 90, a 91, a 92, a 93, i 5700, i 5701)).2.1).2.1 from (by unfold cMend; simp only [if_pos bw86, if_neg bw87]; first | done | rfl | (simp only [kg79.fa 3 rfl, q73, sMn, sMx]; done) | (simp only [kg79.fa 3 rfl, q73, sMn, sMx]; rfl))), (show ag79 4 = ((cMend (i 64) x1 x2 x3 (a 2, a 3, a 4, a 5, i 70, i 71, i 72) (a 90, a 91, a 92, a 93, i 5700, i 5701)).2.1).2.2.1 from (by unfold cMend; simp only [if_pos bw86, if_neg bw87]; first | done | rfl | (simp only [kg79.fa 4 rfl, q74, sMn, sMx]; done) | (simp only [kg79.fa 4 rfl, q74, sMn, sMx]; rfl))), (show ag79 5 = ((cMend (i 64) x1 x2 x3 (a 2, a 3, a 4, a 5, i 70, i 71, i 72) (a 90, a 91, a 92, a 93, i 5700, i 5701)).2.1).2.2.2.1 from (by unfold cMend; simp only [if_pos bw86, if_neg bw87]; first | done | rfl | (simp only [kg79.fa 5 rfl, q75, sMn, sMx]; done) | (simp only [kg79.fa 5 rfl, q75, sMn, sMx]; rfl))), (show ig79 70 = ((cMend (i 64) x1 x2 x3 (a 2, a 3, a 4, a 5, i 70, i 71, i 72) (a 90, a 91, a 92, a 93, i 5700, i 5701)).2.1).2.2.2.2.1 from (by unfold cMend; simp only [if_pos bw86, if_neg bw87]; first | done | rfl | (simp only [(show ig79 70 = ig71 70 from kg79.fi 70 rfl), q76, sMn, sMx]; done) | (simp only [(show ig79 70 = ig71 70 from kg79.fi 70 rfl), q76, sMn, sMx]; rfl))), (show ig79 71 = ((cMend (i 64) x1 x2 x3 (a 2, a 3, a 4, a 5, i 70, i 71, i 72) (a 90, a 91, a 92, a 93, i 5700, i 5701)).2.1).2.2.2.2.2.1 from (by unfold cMend; simp only [if_pos bw86, if_neg bw87]; first | done | rfl | (simp only [(show ig79 71 = ig71 71 from kg79.fi 71 rfl), q77, sMn, sMx]; done) | (simp only [(show ig79 71 = ig71 71 from kg79.fi 71 rfl), q77, sMn, sMx]; rfl))), (show ig79 72 = ((cMend (i 64) x1 x2 x3 (a 2, a 3, a 4, a 5, i 70, i 71, i 72) (a 90, a 91, a 92, a 93, i 5700, i 5701)).2.1).2.2.2.2.2.2 from (by unfold cMend; simp only [if_pos bw86, if_neg bw87]; first | done | rfl | (simp only [(show ig79 72 = ig71 72 from kg79.fi 72 rfl), q78, sMn, sMx]; done) | (simp only [(show ig79 72 = ig71 72 from kg79.fi 72 rfl), q78, sMn, sMx]; rfl))), (show ag79 90 = ((cMend (i 64) x1 x2 x3 (a 2, a 3, a 4, a 5, i 70, i 71, i 72) (a 90, a 91, a 92, a 93, i 5700, i 5701)).2.2).1 from (by unfold cMend; simp only [if_pos bw86, if_neg bw87]; first | done | rfl | (simp only [q80, q65, kg71.fa 90 rfl, kg71.fa 91 rfl, kg71.fa 92 rfl, kg71.fa 93 rfl, (show ig71 5700 = i 5700 from kg71.fi 5700 rfl), (show ig71 5701 = i 5701 from kg71.fi 5701 rfl), sMn, sMx]; done) | (simp only [q80, q65, kg71.fa 90 rfl, kg71.fa 91 rfl, kg71.fa 92 rfl, kg71.fa 93 rfl, (show ig71 5700 = i 5700 from kg71.fi 5700 rfl), (show ig71 5701 = i 5701 from kg71.fi 5701 rfl), sMn, sMx]; rfl))), (show ag79 91 = ((cMend (i 64) x1 x2 x3 (a 2, a 3, a 4, a 5, i 70, i 71, i 72) (a 90, a 91, a 92, a 93, i 5700, i 5701)).2.2).2.1 from (by unfold cMend; simp only [if_pos bw86, if_neg bw87]; first | done | rfl | (simp only [q81, q65, kg71.fa 90 rfl, kg71.fa 91 rfl, kg71.fa 92 rfl, kg71.fa 93 rfl, (show ig71 5700 = i 5700 from kg71.fi 5700 rfl), (show ig71 5701 = i 5701 from kg71.fi 5701 rfl), sMn, sMx]; done) | (simp only [q81, q65, kg71.fa 90 rfl, kg71.fa 91 rfl, kg71.fa 92 rfl, kg71.fa 93 rfl, (show ig71 5700 = i 5700 from kg71.fi 5700 rfl), (show ig71 5701 = i 5701 from kg71.fi 5701 rfl), sMn, sMx]; rfl))), (show ag79 92 = ((cMend (i 64) x1 x2 x3 (a 2, a 3, a 4, a 5, i 70, i 71, i 72) (a 90, a 91, a 92, a 93, i 5700, i 5701)).2.2).2.2.1 from (by unfold cMend; simp only [if_pos bw86, if_neg bw87]; first | done | rfl | (simp only [q82, q65, kg71.fa 90 rfl, kg71.fa 91 rfl, kg71.fa 92 rfl, kg71.fa 93 rfl, (show ig71 5700 = i 5700 from kg71.fi 5700 rfl), (show ig71 5701 = i 5701 from kg71.fi 5701 rfl), sMn, sMx]; done) | (simp only [q82, q65, kg71.fa 90 rfl, kg71.fa 91 rfl, kg71.fa 92 rfl, kg71.fa 93 rfl, (show ig71 5700 = i 5700 from kg71.fi 5700 rfl), (show ig71 5701 = i 5701 from kg71.fi 5701 rfl), sMn, sMx]; rfl))), (show ag79 93 = ((cMend (i 64) x1 x2 x3 (a 2, a 3, a 4, a 5, i 70, i 71, i 72) (a 90, a 91, a 92, a 93, i 5700, i 5701)).2.2).2.2.2.1 from (by unfold cMend; simp only [if_pos bw86, if_neg bw87]; first | done | rfl | (simp only [q83, q65, kg71.fa 90 rfl, kg71.fa 91 rfl, kg71.fa 92 rfl, kg71.fa 93 rfl, (show ig71 5700 = i 5700 from kg71.fi 5700 rfl), (show ig71 5701 = i 5701 from kg71.fi 5701 rfl), sMn, sMx]; done) | (simp only [q83, q65, kg71.fa 90 rfl, kg71.fa 91 rfl, kg71.fa 92 rfl, kg71.fa 93 rfl, (show ig71 5700 = i 5700 from kg71.fi 5700 rfl), (show ig71 5701 = i 5701 from kg71.fi 5701 rfl), sMn, sMx]; rfl))), (show ig79 5700 = ((cMend (i 64) x1 x2 x3 (a 2, a 3, a 4, a 5, i 70, i 71, i 72) (a 90, a 91, a 92, a 93, i 5700, i 5701)).2.2).2.2.2.2.1 from (by unfold cMend; simp only [if_pos bw86, if_neg bw87]; first | done | rfl | (simp only [q84, q65, kg71.fa 90 rfl, kg71.fa 91 rfl, kg71.fa 92 rfl, kg71.fa 93 rfl, (show ig71 5700 = i 5700 from kg71.fi 5700 rfl), (show ig71 5701 = i 5701 from kg71.fi 5701 rfl), sMn, sMx]; done) | (simp only [q84, q65, kg71.fa 90 rfl, kg71.fa 91 rfl, kg71.fa 92 rfl, kg71.fa 93 rfl, (show ig71 5700 = i 5700 from kg71.fi 5700 rfl), (show ig71 5701 = i 5701 from kg71.fi 5701 rfl), sMn, sMx]; rfl))), (show ig79 5701 = ((cMend (i 64) x1 x2 x3 (a 2, a 3, a 4, a 5, i 70, i 71, i 72) (a 90, a 91, a 92, a 93, i 5700, i 5701)).2.2).2.2.2.2.2 from (by unfold cMend; simp only [if_pos bw86, if_neg bw87]; first | done | rfl | (simp only [q85, q65, kg71.fa 90 rfl, kg71.fa 91 rfl, kg71.fa 92 rfl, kg71.fa 93 rfl, (show ig71 5700 = i 5700 from kg71.fi 5700 rfl), (show ig71 5701 = i 5701 from kg71.fi 5701 rfl), sMn, sMx]; done) | (simp only [q85, q65, kg71.fa 90 rfl, kg71.fa 91 rfl, kg71.fa 92 rfl, kg71.fa 93 rfl, (show ig71 5700 = i 5700 from kg71.fi 5700 rfl), (show ig71 5701 = i 5701 from kg71.fi 5701 rfl), sMn, sMx]; rfl)))⟩⟩)
      ·
        subst eg62
        have z88 : ¬ (((0 : Int) ≤ x3.toInt) ∧ (x3.toInt ≤ 9)) := hg62
        first | refine fo_goS mi_k83 fz83_6_2_18 [.int (-1)] (by rfl) ?_ | refine fo_goS mi_k83 fz83_14_2_18 [.int (-1)] (by rfl) ?_
        have bw89 : ¬ (kTold (i 64) x1 x2 ∧ kFit x2 x3) := (fun z => absurd ((kFit_2 (ou13 w61)).mp z.2) (ou94 z88))
        exact ft_ret mi_k83 (by rfl) (hP (-1) _ _ _ _ hG ⟨trivial, ⟨(show ((-1) : Int32) = (cMend (i 64) x1 x2 x3 (a 2, a 3, a 4, a 5, i 70, i 71, i 72) (a 90, a 91, a 92, a 93, i 5700, i 5701)).1 from (by unfold cMend; simp only [if_neg bw89]; first | done | rfl | (simp only [sMn, sMx]; done) | (simp only [sMn, sMx]; rfl))), (show a 2 = ((cMend (i 64) x1 x2 x3 (a 2, a 3, a 4, a 5, i 70, i 71, i 72) (a 90, a 91, a 92, a 93, i 5700, i 5701)).2.1).1 from (by unfold cMend; simp only [if_neg bw89]; first | done | rfl | (simp only [sMn, sMx]; done) | (simp only [sMn, sMx]; rfl))), (show a 3 = ((cMend (i 64) x1 x2 x3 (a 2, a 3, a 4, a 5, i 70, i 71, i 72) (a 90, a 91, a 92, a 93, i 5700, i 5701)).2.1).2.1 from (by unfold cMend; simp only [if_neg bw89]; first | done | rfl | (simp only [sMn, sMx]; done) | (simp only [sMn, sMx]; rfl))), (show a 4 = ((cMend (i 64) x1 x2 x3 (a 2, a 3, a 4, a 5, i 70, i 71, i 72) (a 90, a 91, a 92, a 93, i 5700, i 5701)).2.1).2.2.1 from (by unfold cMend; simp only [if_neg bw89]; first | done | rfl | (simp only [sMn, sMx]; done) | (simp only [sMn, sMx]; rfl))), (show a 5 = ((cMend (i 64) x1 x2 x3 (a 2, a 3, a 4, a 5, i 70, i 71, i 72) (a 90, a 91, a 92, a 93, i 5700, i 5701)).2.1).2.2.2.1 from (by unfold cMend; simp only [if_neg bw89]; first | done | rfl | (simp only [sMn, sMx]; done) | (simp only [sMn, sMx]; rfl))), (show i 70 = ((cMend (i 64) x1 x2 x3 (a 2, a 3, a 4, a 5, i 70, i 71, i 72) (a 90, a 91, a 92, a 93, i 5700, i 5701)).2.1).2.2.2.2.1 from (by unfold cMend; simp only [if_neg bw89]; first | done | rfl | (simp only [sMn, sMx]; done) | (simp only [sMn, sMx]; rfl))), (show i 71 = ((cMend (i 64) x1 x2 x3 (a 2, a 3, a 4, a 5, i 70, i 71, i 72) (a 90, a 91, a 92, a 93, i 5700, i 5701)).2.1).2.2.2.2.2.1 from (by unfold cMend; simp only [if_neg bw89]; first | done | rfl | (simp only [sMn, sMx]; done) | (simp only [sMn, sMx]; rfl))), (show i 72 = ((cMend (i 64) x1 x2 x3 (a 2, a 3, a 4, a 5, i 70, i 71, i 72) (a 90, a 91, a 92, a 93, i 5700, i 5701)).2.1).2.2.2.2.2.2 from (by unfold cMend; simp only [if_neg bw89]; first | done | rfl | (simp only [sMn, sMx]; done) | (simp only [sMn, sMx]; rfl))), (show a 90 = ((cMend (i 64) x1 x2 x3 (a 2, a 3, a 4, a 5, i 70, i 71, i 72) (a 90, a 91, a 92, a 93, i 5700, i 5701)).2.2).1 from (by unfold cMend; simp only [if_neg bw89]; first | done | rfl | (simp only [sMn, sMx]; done) | (simp only [sMn, sMx]; rfl))), (show a 91 = ((cMend (i 64) x1 x2 x3 (a 2, a 3, a 4, a 5, i 70, i 71, i 72) (a 90, a 91, a 92, a 93, i 5700, i 5701)).2.2).2.1 from (by unfold cMend; simp only [if_neg bw89]; first | done | rfl | (simp only [sMn, sMx]; done) | (simp only [sMn, sMx]; rfl))), (show a 92 = ((cMend (i 64) x1 x2 x3 (a 2, a 3, a 4, a 5, i 70, i 71, i 72) (a 90, a 91, a 92, a 93, i 5700, i 5701)).2.2).2.2.1 from (by unfold cMend; simp only [if_neg bw89]; first | done | rfl | (simp only [sMn, sMx]; done) | (simp only [sMn, sMx]; rfl))), (show a 93 = ((cMend (i 64) x1 x2 x3 (a 2, a 3, a 4, a 5, i 70, i 71, i 72) (a 90, a 91, a 92, a 93, i 5700, i 5701)).2.2).2.2.2.1 from (by unfold cMend; simp only [if_neg bw89]; first | done | rfl | (simp only [sMn, sMx]; done) | (simp only [sMn, sMx]; rfl))), (show i 5700 = ((cMend (i 64) x1 x2 x3 (a 2, a 3, a 4, a 5, i 70, i 71, i 72) (a 90, a 91, a 92, a 93, i 5700, i 5701)).2.2).2.2.2.2.1 from (by unfold cMend; simp only [if_neg bw89]; first | done | rfl | (simp only [sMn, sMx]; done) | (simp only [sMn, sMx]; rfl))), (show i 5701 = ((cMend (i 64) x1 x2 x3 (a 2, a 3, a 4, a 5, i 70, i 71, i 72) (a 90, a 91, a 92, a 93, i 5700, i 5701)).2.2).2.2.2.2.2 from (by unfold cMend; simp only [if_neg bw89]; first | done | rfl | (simp only [sMn, sMx]; done) | (simp only [sMn, sMx]; rfl)))⟩⟩)
    by_cases w90 : x2.toInt = 3
    ·
      refine ko_eq (x1 := (11, [(0, .ref 0), (1, .int x1), (2, .int x2), (3, .int x3)], [.int x3, .int 3], (0, 0), ks i a q r)) (by rw [(kj_eq w90 (by decide) : x2 = 3)]) ?_
      refine ko_callPI mi_k83.1 (pc := 11) (ls := [(0, .ref 0), (1, .int x1), (2, .int x2), (3, .int x3)]) (st := [.int x3, .int 3]) (h := ks i a q r) (i := (.invokestatic 58, 3, 126, 0, 9, 0, 151)) (mi_k83.2 _ _ (by rfl)) (ft_invS mi_pq126 (by rfl)) (cy := mi_c126) mi_pq126 rfl (ke126_l03 hG.I hG.R x3) (by decide) ?_
      intro vg91 hg91
      rcases hg91 with ⟨eg91, hg91⟩ | ⟨eg91, hg91⟩
      ·
        subst eg91
        have z92 : ((0 : Int) ≤ x3.toInt) ∧ (x3.toInt ≤ 1) := hg91
        refine fo_goS mi_k83 fz83_14_5_25 [.int x2, .int x1, .ref 1] rfl ?_
        refine ko_callPI mi_k83.1 (pc := 25) (ls := [(0, .ref 0), (1, .int x1), (2, .int x2), (3, .int x3)]) (st := [.int x2, .int x1, .ref 1]) (h := ks i a q r) (i := (.invokevirtual 98, 3, 27, 0, 9, 0, 164)) (mi_k83.2 _ _ (by rfl)) (ft_invS mi_pq27 (by rfl)) (cy := mi_c27) mi_pq27 rfl (ke27_1 hG.I hG.R x1 x2) (by decide) ?_
        intro vg93 hg93
        obtain ⟨hg93, og93⟩ := hg93
        have q94 : vg93 = cGet (i 64) x1 x2 (a 2, a 3, a 4, a 5, i 70, i 71, i 72) := og93
        have u95 : vg93.toInt = (cGet (i 64) x1 x2 (a 2, a 3, a 4, a 5, i 70, i 71, i 72)).toInt := congrArg Int32.toInt q94
        refine fo_goL mi_k83 fz83_28_3_33 [(4, .int vg93), (0, .ref 0), (1, .int x1), (2, .int x2), (3, .int x3)] [.int x3, .int vg93] rfl ?_
        refine ft_ifS mi_k83 (vg93 == x3) 58 36 [] (by rfl) (fun c => ?_) (fun c => ?_)
        ·
          have c96 : vg93.toInt = x3.toInt := kd_eq c; clear c
          refine fo_goS mi_k83 fz83_58_1_60 [.int vg93] rfl ?_
          have bw97 : (kTold (i 64) x1 x2 ∧ kFit x2 x3) := ⟨(ou104 w90 z2), (kFit_3 (ou105 w90)).mpr (ou106 z92.1 z92.2)⟩
          have bw98 : (cGet (i 64) x1 x2 (a 2, a 3, a 4, a 5, i 70, i 71, i 72)).toInt = x3.toInt := (ou85 c96 u95)
          exact ft_ret mi_k83 (by rfl) (hP vg93 _ _ _ _ hG ⟨trivial, ⟨(show vg93 = (cMend (i 64) x1 x2 x3 (a 2, a 3, a 4, a 5, i 70, i 71, i 72) (a 90, a 91, a 92, a 93, i 5700, i 5701)).1 from (by unfold cMend; simp only [if_pos bw97, if_pos bw98]; first | done | rfl | (simp only [q94, sMn, sMx]; done) | (simp only [q94, sMn, sMx]; rfl))), (show a 2 = ((cMend (i 64) x1 x2 x3 (a 2, a 3, a 4, a 5, i 70, i 71, i 72) (a 90, a 91, a 92, a 93, i 5700, i 5701)).2.1).1 from (by unfold cMend; simp only [if_pos bw97, if_pos bw98]; first | done | rfl | (simp only [sMn, sMx]; done) | (simp only [sMn, sMx]; rfl))), (show a 3 = ((cMend (i 64) x1 x2 x3 (a 2, a 3, a 4, a 5, i 70, i 71, i 72) (a 90, a 91, a 92, a 93, i 5700, i 5701)).2.1).2.1 from (by unfold cMend; simp only [if_pos bw97, if_pos bw98]; first | done | rfl | (simp only [sMn, sMx]; done) | (simp only [sMn, sMx]; rfl))), (show a 4 = ((cMend (i 64) x1 x2 x3 (a 2, a 3, a 4, a 5, i 70, i 71, i 72) (a 90, a 91, a 92, a 93, i 5700, i 5701)).2.1).2.2.1 from (by unfold cMend; simp only [if_pos bw97, if_pos bw98]; first | done | rfl | (simp only [sMn, sMx]; done) | (simp only [sMn, sMx]; rfl))), (show a 5 = ((cMend (i 64) x1 x2 x3 (a 2, a 3, a 4, a 5, i 70, i 71, i 72) (a 90, a 91, a 92, a 93, i 5700, i 5701)).2.1).2.2.2.1 from (by unfold cMend; simp only [if_pos bw97, if_pos bw98]; first | done | rfl | (simp only [sMn, sMx]; done) | (simp only [sMn, sMx]; rfl))), (show i 70 = ((cMend (i 64) x1 x2 x3 (a 2, a 3, a 4, a 5, i 70, i 71, i 72) (a 90, a 91, a 92, a 93, i 5700, i 5701)).2.1).2.2.2.2.1 from (by unfold cMend; simp only [if_pos bw97, if_pos bw98]; first | done | rfl | (simp only [sMn, sMx]; done) | (simp only [sMn, sMx]; rfl))), (show i 71 = ((cMend (i 64) x1 x2 x3 (a 2, a 3, a 4, a 5, i 70, i 71, i 72) (a 90, a 91, a 92, a 93, i 5700, i 5701)).2.1).2.2.2.2.2.1 from (by unfold cMend; simp only [if_pos bw97, if_pos bw98]; first | done | rfl | (simp only [sMn, sMx]; done) | (simp only [sMn, sMx]; rfl))), (show i 72 = ((cMend (i 64) x1 x2 x3 (a 2, a 3, a 4, a 5, i 70, i 71, i 72) (a 90, a 91, a 92, a 93, i 5700, i 5701)).2.1).2.2.2.2.2.2 from (by unfold cMend; simp only [if_pos bw97, if_pos bw98]; first | done | rfl | (simp only [sMn, sMx]; done) | (simp only [sMn, sMx]; rfl))), (show a 90 = ((cMend (i 64) x1 x2 x3 (a 2, a 3, a 4, a 5, i 70, i 71, i 72) (a 90, a 91, a 92, a 93, i 5700, i 5701)).2.2).1 from (by unfold cMend; simp only [if_pos bw97, if_pos bw98]; first | done | rfl | (simp only [sMn, sMx]; done) | (simp only [sMn, sMx]; rfl))), (show a 91 = ((cMend (i 64) x1 x2 x3 (a 2, a 3, a 4, a 5, i 70, i 71, i 72) (a 90, a 91, a 92, a 93, i 5700, i 5701)).2.2).2.1 from (by unfold cMend; simp only [if_pos bw97, if_pos bw98]; first | done | rfl | (simp only [sMn, sMx]; done) | (simp only [sMn, sMx]; rfl))), (show a 92 = ((cMend (i 64) x1 x2 x3 (a 2, a 3, a 4, a 5, i 70, i 71, i 72) (a 90, a 91, a 92, a 93, i 5700, i 5701)).2.2).2.2.1 from (by unfold cMend; simp only [if_pos bw97, if_pos bw98]; first | done | rfl | (simp only [sMn, sMx]; done) | (simp only [sMn, sMx]; rfl))), (show a 93 = ((cMend (i 64) x1 x2 x3 (a 2, a 3, a 4, a 5, i 70, i 71, i 72) (a 90, a 91, a 92, a 93, i 5700, i 5701)).2.2).2.2.2.1 from (by unfold cMend; simp only [if_pos bw97, if_pos bw98]; first | done | rfl | (simp only [sMn, sMx]; done) | (simp only [sMn, sMx]; rfl))), (show i 5700 = ((cMend (i 64) x1 x2 x3 (a 2, a 3, a 4, a 5, i 70, i 71, i 72) (a 90, a 91, a 92, a 93, i 5700, i 5701)).2.2).2.2.2.2.1 from (by unfold cMend; simp only [if_pos bw97, if_pos bw98]; first | done | rfl | (simp only [sMn, sMx]; done) | (simp only [sMn, sMx]; rfl))), (show i 5701 = ((cMend (i 64) x1 x2 x3 (a 2, a 3, a 4, a 5, i 70, i 71, i 72) (a 90, a 91, a 92, a 93, i 5700, i 5701)).2.2).2.2.2.2.2 from (by unfold cMend; simp only [if_pos bw97, if_pos bw98]; first | done | rfl | (simp only [sMn, sMx]; done) | (simp only [sMn, sMx]; rfl)))⟩⟩)
        ·
          have c99 : vg93.toInt ≠ x3.toInt := kd_eqF c; clear c
          refine fo_goS mi_k83 fz83_36_5_43 [.int x3, .int x2, .int x1, .ref 1] rfl ?_
          refine ko_callN mi_k83.1 (pc := 43) (ls := [(4, .int vg93), (0, .ref 0), (1, .int x1), (2, .int x2), (3, .int x3)]) (st := [.int x3, .int x2, .int x1, .ref 1]) (h := ks i a q r) (i := (.invokevirtual 102, 3, 28, 0, 9, 0, 167)) (mi_k83.2 _ _ (by rfl)) (ft_invS mi_pq28 (by rfl)) (cy := mi_c28) mi_pq28 rfl (ke28_1 hG.I hG.R x1 x2 x3) (by decide) ?_
          intro ig100 ag100 qg100 rg100 kg100 hg100
          have hGg100 := kG_call hG kg100 (by decide +kernel)
          obtain ⟨hg100, og100⟩ := hg100
          have q101 : ag100 2 = (cSet (i 64) x1 x2 x3 (a 2, a 3, a 4, a 5, i 70, i 71, i 72)).1 := og100.1
          have q102 : ag100 3 = (cSet (i 64) x1 x2 x3 (a 2, a 3, a 4, a 5, i 70, i 71, i 72)).2.1 := og100.2.1
          have q103 : ag100 4 = (cSet (i 64) x1 x2 x3 (a 2, a 3, a 4, a 5, i 70, i 71, i 72)).2.2.1 := og100.2.2.1
          have q104 : ag100 5 = (cSet (i 64) x1 x2 x3 (a 2, a 3, a 4, a 5, i 70, i 71, i 72)).2.2.2.1 := og100.2.2.2.1
          have q105 : ig100 70 = (cSet (i 64) x1 x2 x3 (a 2, a 3, a 4, a 5, i 70, i 71, i 72)).2.2.2.2.1 := og100.2.2.2.2.1
          have q106 : ig100 71 = (cSet (i 64) x1 x2 x3 (a 2, a 3, a 4, a 5, i 70, i 71, i 72)).2.2.2.2.2.1 := og100.2.2.2.2.2.1
          have q107 : ig100 72 = (cSet (i 64) x1 x2 x3 (a 2, a 3, a 4, a 5, i 70, i 71, i 72)).2.2.2.2.2.2 := og100.2.2.2.2.2.2
          refine fo_goS mi_k83 fz83_46_6_55 [.int x3, .int vg93, .int x2, .int x1, .ref 89] rfl ?_
          refine ko_callN mi_k83.1 (pc := 55) (ls := [(4, .int vg93), (0, .ref 0), (1, .int x1), (2, .int x2), (3, .int x3)]) (st := [.int x3, .int vg93, .int x2, .int x1, .ref 89]) (h := ks ig100 ag100 qg100 rg100) (i := (.invokevirtual 106, 3, 5, 0, 9, 0, 168)) (mi_k83.2 _ _ (by rfl)) (ft_invS mi_pq5 (by rfl)) (cy := mi_c5) mi_pq5 rfl (ke5_89 hGg100.I hGg100.R x1 x2 vg93 x3) (by decide) ?_
          intro ig108 ag108 qg108 rg108 kg108 hg108
          have hGg108 := kG_call hGg100 kg108 (by decide +kernel)
          obtain ⟨hg108, og108⟩ := hg108
          have q109 : ag108 90 = (nAdd x1 x2 vg93 x3 (ag100 90, ag100 91, ag100 92, ag100 93, ig100 5700, ig100 5701)).1 := og108.1
          have q110 : ag108 91 = (nAdd x1 x2 vg93 x3 (ag100 90, ag100 91, ag100 92, ag100 93, ig100 5700, ig100 5701)).2.1 := og108.2.1
          have q111 : ag108 92 = (nAdd x1 x2 vg93 x3 (ag100 90, ag100 91, ag100 92, ag100 93, ig100 5700, ig100 5701)).2.2.1 := og108.2.2.1
          have q112 : ag108 93 = (nAdd x1 x2 vg93 x3 (ag100 90, ag100 91, ag100 92, ag100 93, ig100 5700, ig100 5701)).2.2.2.1 := og108.2.2.2.1
          have q113 : ig108 5700 = (nAdd x1 x2 vg93 x3 (ag100 90, ag100 91, ag100 92, ag100 93, ig100 5700, ig100 5701)).2.2.2.2.1 := og108.2.2.2.2.1
          have q114 : ig108 5701 = (nAdd x1 x2 vg93 x3 (ag100 90, ag100 91, ag100 92, ag100 93, ig100 5700, ig100 5701)).2.2.2.2.2 := og108.2.2.2.2.2
          refine fo_goS mi_k83 fz83_58_1_60 [.int vg93] rfl ?_
          have bw115 : (kTold (i 64) x1 x2 ∧ kFit x2 x3) := ⟨(ou104 w90 z2), (kFit_3 (ou105 w90)).mpr (ou106 z92.1 z92.2)⟩
          have bw116 : ¬ ((cGet (i 64) x1 x2 (a 2, a 3, a 4, a 5, i 70, i 71, i 72)).toInt = x3.toInt) := (ou86 c99 u95)
          exact ft_ret mi_k83 (by rfl) (hP vg93 _ _ _ _ hGg108 ⟨trivial, ⟨(show vg93 = (cMend (i 64) x1 x2 x3 (a 2, a 3, a 4, a 5, i 70, i 71, i 72) (a 90, a 91, a 92, a 93, i 5700, i 5701)).1 from (by unfold cMend; simp only [if_pos bw115, if_neg bw116]; first | done | rfl | (simp only [q94, sMn, sMx]; done) | (simp only [q94, sMn, sMx]; rfl))), (show ag108 2 = ((cMend (i 64) x1 x2 x3 (a 2, a 3, a 4, a 5, i 70, i 71, i 72) (a 90, a 91, a 92, a 93, i 5700, i 5701)).2.1).1 from (by unfold cMend; simp only [if_pos bw115, if_neg bw116]; first | done | rfl | (simp only [kg108.fa 2 rfl, q101, sMn, sMx]; done) | (simp only [kg108.fa 2 rfl, q101, sMn, sMx]; rfl))), (show ag108 3 = ((cMend (i 64) x1 x2 x3 (a 2, a 3, a 4, a 5, i 70, i 71, i 72) (a 90, a 91, a 92, a 93, i 5700, i 5701)).2.1).2.1 from (by unfold cMend; simp only [if_pos bw115, if_neg bw116]; first | done | rfl | (simp only [kg108.fa 3 rfl, q102, sMn, sMx]; done) | (simp only [kg108.fa 3 rfl, q102, sMn, sMx]; rfl))), (show ag108 4 = ((cMend (i 64) x1 x2 x3 (a 2, a 3, a 4, a 5, i 70, i 71, i 72) (a 90, a 91, a 92, a 93, i 5700, i 5701)).2.1).2.2.1 from (by unfold cMend; simp only [if_pos bw115, if_neg bw116]; first | done | rfl | (simp only [kg108.fa 4 rfl, q103, sMn, sMx]; done) | (simp only [kg108.fa 4 rfl, q103, sMn, sMx]; rfl))), (show ag108 5 = ((cMend (i 64) x1 x2 x3 (a 2, a 3, a 4, a 5, i 70, i 71, i 72) (a 90, a 91, a 92, a 93, i 5700, i 5701)).2.1).2.2.2.1 from (by unfold cMend; simp only [if_pos bw115, if_neg bw116]; first | done | rfl | (simp only [kg108.fa 5 rfl, q104, sMn, sMx]; done) | (simp only [kg108.fa 5 rfl, q104, sMn, sMx]; rfl))), (show ig108 70 = ((cMend (i 64) x1 x2 x3 (a 2, a 3, a 4, a 5, i 70, i 71, i 72) (a 90, a 91, a 92, a 93, i 5700, i 5701)).2.1).2.2.2.2.1 from (by unfold cMend; simp only [if_pos bw115, if_neg bw116]; first | done | rfl | (simp only [(show ig108 70 = ig100 70 from kg108.fi 70 rfl), q105, sMn, sMx]; done) | (simp only [(show ig108 70 = ig100 70 from kg108.fi 70 rfl), q105, sMn, sMx]; rfl))), (show ig108 71 = ((cMend (i 64) x1 x2 x3 (a 2, a 3, a 4, a 5, i 70, i 71, i 72) (a 90, a 91, a 92, a 93, i 5700, i 5701)).2.1).2.2.2.2.2.1 from (by unfold cMend; simp only [if_pos bw115, if_neg bw116]; first | done | rfl | (simp only [(show ig108 71 = ig100 71 from kg108.fi 71 rfl), q106, sMn, sMx]; done) | (simp only [(show ig108 71 = ig100 71 from kg108.fi 71 rfl), q106, sMn, sMx]; rfl))), (show ig108 72 = ((cMend (i 64) x1 x2 x3 (a 2, a 3, a 4, a 5, i 70, i 71, i 72) (a 90, a 91, a 92, a 93, i 5700, i 5701)).2.1).2.2.2.2.2.2 from (by unfold cMend; simp only [if_pos bw115, if_neg bw116]; first | done | rfl | (simp only [(show ig108 72 = ig100 72 from kg108.fi 72 rfl), q107, sMn, sMx]; done) | (simp only [(show ig108 72 = ig100 72 from kg108.fi 72 rfl), q107, sMn, sMx]; rfl))), (show ag108 90 = ((cMend (i 64) x1 x2 x3 (a 2, a 3, a 4, a 5, i 70, i 71, i 72) (a 90, a 91, a 92, a 93, i 5700, i 5701)).2.2).1 from (by unfold cMend; simp only [if_pos bw115, if_neg bw116]; first | done | rfl | (simp only [q109, q94, kg100.fa 90 rfl, kg100.fa 91 rfl, kg100.fa 92 rfl, kg100.fa 93 rfl, (show ig100 5700 = i 5700 from kg100.fi 5700 rfl), (show ig100 5701 = i 5701 from kg100.fi 5701 rfl), sMn, sMx]; done) | (simp only [q109, q94, kg100.fa 90 rfl, kg100.fa 91 rfl, kg100.fa 92 rfl, kg100.fa 93 rfl, (show ig100 5700 = i 5700 from kg100.fi 5700 rfl), (show ig100 5701 = i 5701 from kg100.fi 5701 rfl), sMn, sMx]; rfl))), (show ag108 91 = ((cMend (i 64) x1 x2 x3 (a 2, a 3, a 4, a 5, i 70, i 71, i 72) (a 90, a 91, a 92, a 93, i 5700, i 5701)).2.2).2.1 from (by unfold cMend; simp only [if_pos bw115, if_neg bw116]; first | done | rfl | (simp only [q110, q94, kg100.fa 90 rfl, kg100.fa 91 rfl, kg100.fa 92 rfl, kg100.fa 93 rfl, (show ig100 5700 = i 5700 from kg100.fi 5700 rfl), (show ig100 5701 = i 5701 from kg100.fi 5701 rfl), sMn, sMx]; done) | (simp only [q110, q94, kg100.fa 90 rfl, kg100.fa 91 rfl, kg100.fa 92 rfl, kg100.fa 93 rfl, (show ig100 5700 = i 5700 from kg100.fi 5700 rfl), (show ig100 5701 = i 5701 from kg100.fi 5701 rfl), sMn, sMx]; rfl))), (show ag108 92 = ((cMend (i 64) x1 x2 x3 (a 2, a 3, a 4, a 5, i 70, i 71, i 72) (a 90, a 91, a 92, a 93, i 5700, i 5701)).2.2).2.2.1 from (by unfold cMend; simp only [if_pos bw115, if_neg bw116]; first | done | rfl | (simp only [q111, q94, kg100.fa 90 rfl, kg100.fa 91 rfl, kg100.fa 92 rfl, kg100.fa 93 rfl, (show ig100 5700 = i 5700 from kg100.fi 5700 rfl), (show ig100 5701 = i 5701 from kg100.fi 5701 rfl), sMn, sMx]; done) | (simp only [q111, q94, kg100.fa 90 rfl, kg100.fa 91 rfl, kg100.fa 92 rfl, kg100.fa 93 rfl, (show ig100 5700 = i 5700 from kg100.fi 5700 rfl), (show ig100 5701 = i 5701 from kg100.fi 5701 rfl), sMn, sMx]; rfl))), (show ag108 93 = ((cMend (i 64) x1 x2 x3 (a 2, a 3, a 4, a 5, i 70, i 71, i 72) (a 90, a 91, a 92, a 93, i 5700, i 5701)).2.2).2.2.2.1 from (by unfold cMend; simp only [if_pos bw115, if_neg bw116]; first | done | rfl | (simp only [q112, q94, kg100.fa 90 rfl, kg100.fa 91 rfl, kg100.fa 92 rfl, kg100.fa 93 rfl, (show ig100 5700 = i 5700 from kg100.fi 5700 rfl), (show ig100 5701 = i 5701 from kg100.fi 5701 rfl), sMn, sMx]; done) | (simp only [q112, q94, kg100.fa 90 rfl, kg100.fa 91 rfl, kg100.fa 92 rfl, kg100.fa 93 rfl, (show ig100 5700 = i 5700 from kg100.fi 5700 rfl), (show ig100 5701 = i 5701 from kg100.fi 5701 rfl), sMn, sMx]; rfl))), (show ig108 5700 = ((cMend (i 64) x1 x2 x3 (a 2, a 3, a 4, a 5, i 70, i 71, i 72) (a 90, a 91, a 92, a 93, i 5700, i 5701)).2.2).2.2.2.2.1 from (by unfold cMend; simp only [if_pos bw115, if_neg bw116]; first | done | rfl | (simp only [q113, q94, kg100.fa 90 rfl, kg100.fa 91 rfl, kg100.fa 92 rfl, kg100.fa 93 rfl, (show ig100 5700 = i 5700 from kg100.fi 5700 rfl), (show ig100 5701 = i 5701 from kg100.fi 5701 rfl), sMn, sMx]; done) | (simp only [q113, q94, kg100.fa 90 rfl, kg100.fa 91 rfl, kg100.fa 92 rfl, kg100.fa 93 rfl, (show ig100 5700 = i 5700 from kg100.fi 5700 rfl), (show ig100 5701 = i 5701 from kg100.fi 5701 rfl), sMn, sMx]; rfl))), (show ig108 5701 = ((cMend (i 64) x1 x2 x3 (a 2, a 3, a 4, a 5, i 70, i 71, i 72) (a 90, a 91, a 92, a 93, i 5700, i 5701)).2.2).2.2.2.2.2 from (by unfold cMend; simp only [if_pos bw115, if_neg bw116]; first | done | rfl | (simp only [q114, q94, kg100.fa 90 rfl, kg100.fa 91 rfl, kg100.fa 92 rfl, kg100.fa 93 rfl, (show ig100 5700 = i 5700 from kg100.fi 5700 rfl), (show ig100 5701 = i 5701 from kg100.fi 5701 rfl), sMn, sMx]; done) | (simp only [q114, q94, kg100.fa 90 rfl, kg100.fa 91 rfl, kg100.fa 92 rfl, kg100.fa 93 rfl, (show ig100 5700 = i 5700 from kg100.fi 5700 rfl), (show ig100 5701 = i 5701 from kg100.fi 5701 rfl), sMn, sMx]; rfl)))⟩⟩)
      ·
        subst eg91
        have z117 : ¬ (((0 : Int) ≤ x3.toInt) ∧ (x3.toInt ≤ 1)) := hg91
        first | refine fo_goS mi_k83 fz83_6_2_18 [.int (-1)] (by rfl) ?_ | refine fo_goS mi_k83 fz83_14_2_18 [.int (-1)] (by rfl) ?_
        have bw118 : ¬ (kTold (i 64) x1 x2 ∧ kFit x2 x3) := (fun z => absurd ((kFit_3 (ou105 w90)).mp z.2) (ou107 z117))
        exact ft_ret mi_k83 (by rfl) (hP (-1) _ _ _ _ hG ⟨trivial, ⟨(show ((-1) : Int32) = (cMend (i 64) x1 x2 x3 (a 2, a 3, a 4, a 5, i 70, i 71, i 72) (a 90, a 91, a 92, a 93, i 5700, i 5701)).1 from (by unfold cMend; simp only [if_neg bw118]; first | done | rfl | (simp only [sMn, sMx]; done) | (simp only [sMn, sMx]; rfl))), (show a 2 = ((cMend (i 64) x1 x2 x3 (a 2, a 3, a 4, a 5, i 70, i 71, i 72) (a 90, a 91, a 92, a 93, i 5700, i 5701)).2.1).1 from (by unfold cMend; simp only [if_neg bw118]; first | done | rfl | (simp only [sMn, sMx]; done) | (simp only [sMn, sMx]; rfl))), (show a 3 = ((cMend (i 64) x1 x2 x3 (a 2, a 3, a 4, a 5, i 70, i 71, i 72) (a 90, a 91, a 92, a 93, i 5700, i 5701)).2.1).2.1 from (by unfold cMend; simp only [if_neg bw118]; first | done | rfl | (simp only [sMn, sMx]; done) | (simp only [sMn, sMx]; rfl))), (show a 4 = ((cMend (i 64) x1 x2 x3 (a 2, a 3, a 4, a 5, i 70, i 71, i 72) (a 90, a 91, a 92, a 93, i 5700, i 5701)).2.1).2.2.1 from (by unfold cMend; simp only [if_neg bw118]; first | done | rfl | (simp only [sMn, sMx]; done) | (simp only [sMn, sMx]; rfl))), (show a 5 = ((cMend (i 64) x1 x2 x3 (a 2, a 3, a 4, a 5, i 70, i 71, i 72) (a 90, a 91, a 92, a 93, i 5700, i 5701)).2.1).2.2.2.1 from (by unfold cMend; simp only [if_neg bw118]; first | done | rfl | (simp only [sMn, sMx]; done) | (simp only [sMn, sMx]; rfl))), (show i 70 = ((cMend (i 64) x1 x2 x3 (a 2, a 3, a 4, a 5, i 70, i 71, i 72) (a 90, a 91, a 92, a 93, i 5700, i 5701)).2.1).2.2.2.2.1 from (by unfold cMend; simp only [if_neg bw118]; first | done | rfl | (simp only [sMn, sMx]; done) | (simp only [sMn, sMx]; rfl))), (show i 71 = ((cMend (i 64) x1 x2 x3 (a 2, a 3, a 4, a 5, i 70, i 71, i 72) (a 90, a 91, a 92, a 93, i 5700, i 5701)).2.1).2.2.2.2.2.1 from (by unfold cMend; simp only [if_neg bw118]; first | done | rfl | (simp only [sMn, sMx]; done) | (simp only [sMn, sMx]; rfl))), (show i 72 = ((cMend (i 64) x1 x2 x3 (a 2, a 3, a 4, a 5, i 70, i 71, i 72) (a 90, a 91, a 92, a 93, i 5700, i 5701)).2.1).2.2.2.2.2.2 from (by unfold cMend; simp only [if_neg bw118]; first | done | rfl | (simp only [sMn, sMx]; done) | (simp only [sMn, sMx]; rfl))), (show a 90 = ((cMend (i 64) x1 x2 x3 (a 2, a 3, a 4, a 5, i 70, i 71, i 72) (a 90, a 91, a 92, a 93, i 5700, i 5701)).2.2).1 from (by unfold cMend; simp only [if_neg bw118]; first | done | rfl | (simp only [sMn, sMx]; done) | (simp only [sMn, sMx]; rfl))), (show a 91 = ((cMend (i 64) x1 x2 x3 (a 2, a 3, a 4, a 5, i 70, i 71, i 72) (a 90, a 91, a 92, a 93, i 5700, i 5701)).2.2).2.1 from (by unfold cMend; simp only [if_neg bw118]; first | done | rfl | (simp only [sMn, sMx]; done) | (simp only [sMn, sMx]; rfl))), (show a 92 = ((cMend (i 64) x1 x2 x3 (a 2, a 3, a 4, a 5, i 70, i 71, i 72) (a 90, a 91, a 92, a 93, i 5700, i 5701)).2.2).2.2.1 from (by unfold cMend; simp only [if_neg bw118]; first | done | rfl | (simp only [sMn, sMx]; done) | (simp only [sMn, sMx]; rfl))), (show a 93 = ((cMend (i 64) x1 x2 x3 (a 2, a 3, a 4, a 5, i 70, i 71, i 72) (a 90, a 91, a 92, a 93, i 5700, i 5701)).2.2).2.2.2.1 from (by unfold cMend; simp only [if_neg bw118]; first | done | rfl | (simp only [sMn, sMx]; done) | (simp only [sMn, sMx]; rfl))), (show i 5700 = ((cMend (i 64) x1 x2 x3 (a 2, a 3, a 4, a 5, i 70, i 71, i 72) (a 90, a 91, a 92, a 93, i 5700, i 5701)).2.2).2.2.2.2.1 from (by unfold cMend; simp only [if_neg bw118]; first | done | rfl | (simp only [sMn, sMx]; done) | (simp only [sMn, sMx]; rfl))), (show i 5701 = ((cMend (i 64) x1 x2 x3 (a 2, a 3, a 4, a 5, i 70, i 71, i 72) (a 90, a 91, a 92, a 93, i 5700, i 5701)).2.2).2.2.2.2.2 from (by unfold cMend; simp only [if_neg bw118]; first | done | rfl | (simp only [sMn, sMx]; done) | (simp only [sMn, sMx]; rfl)))⟩⟩)
    by_cases w119 : x2.toInt = 4
    ·
      refine ko_eq (x1 := (11, [(0, .ref 0), (1, .int x1), (2, .int x2), (3, .int x3)], [.int x3, .int 4], (0, 0), ks i a q r)) (by rw [(kj_eq w119 (by decide) : x2 = 4)]) ?_
      refine ko_callPI mi_k83.1 (pc := 11) (ls := [(0, .ref 0), (1, .int x1), (2, .int x2), (3, .int x3)]) (st := [.int x3, .int 4]) (h := ks i a q r) (i := (.invokestatic 58, 3, 126, 0, 9, 0, 151)) (mi_k83.2 _ _ (by rfl)) (ft_invS mi_pq126 (by rfl)) (cy := mi_c126) mi_pq126 rfl (ke126_l04 hG.I hG.R x3) (by decide) ?_
      intro vg120 hg120
      rcases hg120 with ⟨eg120, hg120⟩ | ⟨eg120, hg120⟩
      ·
        subst eg120
        have z121 : ((1 : Int) ≤ x3.toInt) ∧ (x3.toInt ≤ 5) := hg120
        refine fo_goS mi_k83 fz83_14_5_25 [.int x2, .int x1, .ref 1] rfl ?_
        refine ko_callPI mi_k83.1 (pc := 25) (ls := [(0, .ref 0), (1, .int x1), (2, .int x2), (3, .int x3)]) (st := [.int x2, .int x1, .ref 1]) (h := ks i a q r) (i := (.invokevirtual 98, 3, 27, 0, 9, 0, 164)) (mi_k83.2 _ _ (by rfl)) (ft_invS mi_pq27 (by rfl)) (cy := mi_c27) mi_pq27 rfl (ke27_1 hG.I hG.R x1 x2) (by decide) ?_
        intro vg122 hg122
        obtain ⟨hg122, og122⟩ := hg122
        have q123 : vg122 = cGet (i 64) x1 x2 (a 2, a 3, a 4, a 5, i 70, i 71, i 72) := og122
        have u124 : vg122.toInt = (cGet (i 64) x1 x2 (a 2, a 3, a 4, a 5, i 70, i 71, i 72)).toInt := congrArg Int32.toInt q123
        refine fo_goL mi_k83 fz83_28_3_33 [(4, .int vg122), (0, .ref 0), (1, .int x1), (2, .int x2), (3, .int x3)] [.int x3, .int vg122] rfl ?_
        refine ft_ifS mi_k83 (vg122 == x3) 58 36 [] (by rfl) (fun c => ?_) (fun c => ?_)
        ·
          have c125 : vg122.toInt = x3.toInt := kd_eq c; clear c
          refine fo_goS mi_k83 fz83_58_1_60 [.int vg122] rfl ?_
          have bw126 : (kTold (i 64) x1 x2 ∧ kFit x2 x3) := ⟨(ou113 w119 z2), (kFit_4 (ou0 w119)).mpr (ou114 z121.1 z121.2)⟩
          have bw127 : (cGet (i 64) x1 x2 (a 2, a 3, a 4, a 5, i 70, i 71, i 72)).toInt = x3.toInt := (ou85 c125 u124)
          exact ft_ret mi_k83 (by rfl) (hP vg122 _ _ _ _ hG ⟨trivial, ⟨(show vg122 = (cMend (i 64) x1 x2 x3 (a 2, a 3, a 4, a 5, i 70, i 71, i 72) (a 90, a 91, a 92, a 93, i 5700, i 5701)).1 from (by unfold cMend; simp only [if_pos bw126, if_pos bw127]; first | done | rfl | (simp only [q123, sMn, sMx]; done) | (simp only [q123, sMn, sMx]; rfl))), (show a 2 = ((cMend (i 64) x1 x2 x3 (a 2, a 3, a 4, a 5, i 70, i 71, i 72) (a 90, a 91, a 92, a 93, i 5700, i 5701)).2.1).1 from (by unfold cMend; simp only [if_pos bw126, if_pos bw127]; first | done | rfl | (simp only [sMn, sMx]; done) | (simp only [sMn, sMx]; rfl))), (show a 3 = ((cMend (i 64) x1 x2 x3 (a 2, a 3, a 4, a 5, i 70, i 71, i 72) (a 90, a 91, a 92, a 93, i 5700, i 5701)).2.1).2.1 from (by unfold cMend; simp only [if_pos bw126, if_pos bw127]; first | done | rfl | (simp only [sMn, sMx]; done) | (simp only [sMn, sMx]; rfl))), (show a 4 = ((cMend (i 64) x1 x2 x3 (a 2, a 3, a 4, a 5, i 70, i 71, i 72) (a 90, a 91, a 92, a 93, i 5700, i 5701)).2.1).2.2.1 from (by unfold cMend; simp only [if_pos bw126, if_pos bw127]; first | done | rfl | (simp only [sMn, sMx]; done) | (simp only [sMn, sMx]; rfl))), (show a 5 = ((cMend (i 64) x1 x2 x3 (a 2, a 3, a 4, a 5, i 70, i 71, i 72) (a 90, a 91, a 92, a 93, i 5700, i 5701)).2.1).2.2.2.1 from (by unfold cMend; simp only [if_pos bw126, if_pos bw127]; first | done | rfl | (simp only [sMn, sMx]; done) | (simp only [sMn, sMx]; rfl))), (show i 70 = ((cMend (i 64) x1 x2 x3 (a 2, a 3, a 4, a 5, i 70, i 71, i 72) (a 90, a 91, a 92, a 93, i 5700, i 5701)).2.1).2.2.2.2.1 from (by unfold cMend; simp only [if_pos bw126, if_pos bw127]; first | done | rfl | (simp only [sMn, sMx]; done) | (simp only [sMn, sMx]; rfl))), (show i 71 = ((cMend (i 64) x1 x2 x3 (a 2, a 3, a 4, a 5, i 70, i 71, i 72) (a 90, a 91, a 92, a 93, i 5700, i 5701)).2.1).2.2.2.2.2.1 from (by unfold cMend; simp only [if_pos bw126, if_pos bw127]; first | done | rfl | (simp only [sMn, sMx]; done) | (simp only [sMn, sMx]; rfl))), (show i 72 = ((cMend (i 64) x1 x2 x3 (a 2, a 3, a 4, a 5, i 70, i 71, i 72) (a 90, a 91, a 92, a 93, i 5700, i 5701)).2.1).2.2.2.2.2.2 from (by unfold cMend; simp only [if_pos bw126, if_pos bw127]; first | done | rfl | (simp only [sMn, sMx]; done) | (simp only [sMn, sMx]; rfl))), (show a 90 = ((cMend (i 64) x1 x2 x3 (a 2, a 3, a 4, a 5, i 70, i 71, i 72) (a 90, a 91, a 92, a 93, i 5700, i 5701)).2.2).1 from (by unfold cMend; simp only [if_pos bw126, if_pos bw127]; first | done | rfl | (simp only [sMn, sMx]; done) | (simp only [sMn, sMx]; rfl))), (show a 91 = ((cMend (i 64) x1 x2 x3 (a 2, a 3, a 4, a 5, i 70, i 71, i 72) (a 90, a 91, a 92, a 93, i 5700, i 5701)).2.2).2.1 from (by unfold cMend; simp only [if_pos bw126, if_pos bw127]; first | done | rfl | (simp only [sMn, sMx]; done) | (simp only [sMn, sMx]; rfl))), (show a 92 = ((cMend (i 64) x1 x2 x3 (a 2, a 3, a 4, a 5, i 70, i 71, i 72) (a 90, a 91, a 92, a 93, i 5700, i 5701)).2.2).2.2.1 from (by unfold cMend; simp only [if_pos bw126, if_pos bw127]; first | done | rfl | (simp only [sMn, sMx]; done) | (simp only [sMn, sMx]; rfl))), (show a 93 = ((cMend (i 64) x1 x2 x3 (a 2, a 3, a 4, a 5, i 70, i 71, i 72) (a 90, a 91, a 92, a 93, i 5700, i 5701)).2.2).2.2.2.1 from (by unfold cMend; simp only [if_pos bw126, if_pos bw127]; first | done | rfl | (simp only [sMn, sMx]; done) | (simp only [sMn, sMx]; rfl))), (show i 5700 = ((cMend (i 64) x1 x2 x3 (a 2, a 3, a 4, a 5, i 70, i 71, i 72) (a 90, a 91, a 92, a 93, i 5700, i 5701)).2.2).2.2.2.2.1 from (by unfold cMend; simp only [if_pos bw126, if_pos bw127]; first | done | rfl | (simp only [sMn, sMx]; done) | (simp only [sMn, sMx]; rfl))), (show i 5701 = ((cMend (i 64) x1 x2 x3 (a 2, a 3, a 4, a 5, i 70, i 71, i 72) (a 90, a 91, a 92, a 93, i 5700, i 5701)).2.2).2.2.2.2.2 from (by unfold cMend; simp only [if_pos bw126, if_pos bw127]; first | done | rfl | (simp only [sMn, sMx]; done) | (simp only [sMn, sMx]; rfl)))⟩⟩)
        ·
          have c128 : vg122.toInt ≠ x3.toInt := kd_eqF c; clear c
          refine fo_goS mi_k83 fz83_36_5_43 [.int x3, .int x2, .int x1, .ref 1] rfl ?_
          refine ko_callN mi_k83.1 (pc := 43) (ls := [(4, .int vg122), (0, .ref 0), (1, .int x1), (2, .int x2), (3, .int x3)]) (st := [.int x3, .int x2, .int x1, .ref 1]) (h := ks i a q r) (i := (.invokevirtual 102, 3, 28, 0, 9, 0, 167)) (mi_k83.2 _ _ (by rfl)) (ft_invS mi_pq28 (by rfl)) (cy := mi_c28) mi_pq28 rfl (ke28_1 hG.I hG.R x1 x2 x3) (by decide) ?_
          intro ig129 ag129 qg129 rg129 kg129 hg129
          have hGg129 := kG_call hG kg129 (by decide +kernel)
          obtain ⟨hg129, og129⟩ := hg129
          have q130 : ag129 2 = (cSet (i 64) x1 x2 x3 (a 2, a 3, a 4, a 5, i 70, i 71, i 72)).1 := og129.1
          have q131 : ag129 3 = (cSet (i 64) x1 x2 x3 (a 2, a 3, a 4, a 5, i 70, i 71, i 72)).2.1 := og129.2.1
          have q132 : ag129 4 = (cSet (i 64) x1 x2 x3 (a 2, a 3, a 4, a 5, i 70, i 71, i 72)).2.2.1 := og129.2.2.1
          have q133 : ag129 5 = (cSet (i 64) x1 x2 x3 (a 2, a 3, a 4, a 5, i 70, i 71, i 72)).2.2.2.1 := og129.2.2.2.1
          have q134 : ig129 70 = (cSet (i 64) x1 x2 x3 (a 2, a 3, a 4, a 5, i 70, i 71, i 72)).2.2.2.2.1 := og129.2.2.2.2.1
          have q135 : ig129 71 = (cSet (i 64) x1 x2 x3 (a 2, a 3, a 4, a 5, i 70, i 71, i 72)).2.2.2.2.2.1 := og129.2.2.2.2.2.1
          have q136 : ig129 72 = (cSet (i 64) x1 x2 x3 (a 2, a 3, a 4, a 5, i 70, i 71, i 72)).2.2.2.2.2.2 := og129.2.2.2.2.2.2
          refine fo_goS mi_k83 fz83_46_6_55 [.int x3, .int vg122, .int x2, .int x1, .ref 89] rfl ?_
          refine ko_callN mi_k83.1 (pc := 55) (ls := [(4, .int vg122), (0, .ref 0), (1, .int x1), (2, .int x2), (3, .int x3)]) (st := [.int x3, .int vg122, .int x2, .int x1, .ref 89]) (h := ks ig129 ag129 qg129 rg129) (i := (.invokevirtual 106, 3, 5, 0, 9, 0, 168)) (mi_k83.2 _ _ (by rfl)) (ft_invS mi_pq5 (by rfl)) (cy := mi_c5) mi_pq5 rfl (ke5_89 hGg129.I hGg129.R x1 x2 vg122 x3) (by decide) ?_
          intro ig137 ag137 qg137 rg137 kg137 hg137
          have hGg137 := kG_call hGg129 kg137 (by decide +kernel)
          obtain ⟨hg137, og137⟩ := hg137
          have q138 : ag137 90 = (nAdd x1 x2 vg122 x3 (ag129 90, ag129 91, ag129 92, ag129 93, ig129 5700, ig129 5701)).1 := og137.1
          have q139 : ag137 91 = (nAdd x1 x2 vg122 x3 (ag129 90, ag129 91, ag129 92, ag129 93, ig129 5700, ig129 5701)).2.1 := og137.2.1
          have q140 : ag137 92 = (nAdd x1 x2 vg122 x3 (ag129 90, ag129 91, ag129 92, ag129 93, ig129 5700, ig129 5701)).2.2.1 := og137.2.2.1
          have q141 : ag137 93 = (nAdd x1 x2 vg122 x3 (ag129 90, ag129 91, ag129 92, ag129 93, ig129 5700, ig129 5701)).2.2.2.1 := og137.2.2.2.1
          have q142 : ig137 5700 = (nAdd x1 x2 vg122 x3 (ag129 90, ag129 91, ag129 92, ag129 93, ig129 5700, ig129 5701)).2.2.2.2.1 := og137.2.2.2.2.1
          have q143 : ig137 5701 = (nAdd x1 x2 vg122 x3 (ag129 90, ag129 91, ag129 92, ag129 93, ig129 5700, ig129 5701)).2.2.2.2.2 := og137.2.2.2.2.2
          refine fo_goS mi_k83 fz83_58_1_60 [.int vg122] rfl ?_
          have bw144 : (kTold (i 64) x1 x2 ∧ kFit x2 x3) := ⟨(ou113 w119 z2), (kFit_4 (ou0 w119)).mpr (ou114 z121.1 z121.2)⟩
          have bw145 : ¬ ((cGet (i 64) x1 x2 (a 2, a 3, a 4, a 5, i 70, i 71, i 72)).toInt = x3.toInt) := (ou86 c128 u124)
          exact ft_ret mi_k83 (by rfl) (hP vg122 _ _ _ _ hGg137 ⟨trivial, ⟨(show vg122 = (cMend (i 64) x1 x2 x3 (a 2, a 3, a 4, a 5, i 70, i 71, i 72) (a 90, a 91, a 92, a 93, i 5700, i 5701)).1 from (by unfold cMend; simp only [if_pos bw144, if_neg bw145]; first | done | rfl | (simp only [q123, sMn, sMx]; done) | (simp only [q123, sMn, sMx]; rfl))), (show ag137 2 = ((cMend (i 64) x1 x2 x3 (a 2, a 3, a 4, a 5, i 70, i 71, i 72) (a 90, a 91, a 92, a 93, i 5700, i 5701)).2.1).1 from (by unfold cMend; simp only [if_pos bw144, if_neg bw145]; first | done | rfl | (simp only [kg137.fa 2 rfl, q130, sMn, sMx]; done) | (simp only [kg137.fa 2 rfl, q130, sMn, sMx]; rfl))), (show ag137 3 = ((cMend (i 64) x1 x2 x3 (a 2, a 3, a 4, a 5, i 70, i 71, i 72) (a 90, a 91, a 92, a 93, i 5700, i 5701)).2.1).2.1 from (by unfold cMend; simp only [if_pos bw144, if_neg bw145]; first | done | rfl | (simp only [kg137.fa 3 rfl, q131, sMn, sMx]; done) | (simp only [kg137.fa 3 rfl, q131, sMn, sMx]; rfl))), (show ag137 4 = ((cMend (i 64) x1 x2 x3 (a 2, a 3, a 4, a 5, i 70, i 71, i 72) (a 90, a 91, a 92, a 93, i 5700, i 5701)).2.1).2.2.1 from (by unfold cMend; simp only [if_pos bw144, if_neg bw145]; first | done | rfl | (simp only [kg137.fa 4 rfl, q132, sMn, sMx]; done) | (simp only [kg137.fa 4 rfl, q132, sMn, sMx]; rfl))), (show ag137 5 = ((cMend (i 64) x1 x2 x3 (a 2, a 3, a 4, a 5, i 70, i 71, i 72) (a 90, a 91, a 92, a 93, i 5700, i 5701)).2.1).2.2.2.1 from (by unfold cMend; simp only [if_pos bw144, if_neg bw145]; first | done | rfl | (simp only [kg137.fa 5 rfl, q133, sMn, sMx]; done) | (simp only [kg137.fa 5 rfl, q133, sMn, sMx]; rfl))), (show ig137 70 = ((cMend (i 64) x1 x2 x3 (a 2, a 3, a 4, a 5, i 70, i 71, i 72) (a 90, a 91, a 92, a 93, i 5700, i 5701)).2.1).2.2.2.2.1 from (by unfold cMend; simp only [if_pos bw144, if_neg bw145]; first | done | rfl | (simp only [(show ig137 70 = ig129 70 from kg137.fi 70 rfl), q134, sMn, sMx]; done) | (simp only [(show ig137 70 = ig129 70 from kg137.fi 70 rfl), q134, sMn, sMx]; rfl))), (show ig137 71 = ((cMend (i 64) x1 x2 x3 (a 2, a 3, a 4, a 5, i 70, i 71, i 72) (a 90, a 91, a 92, a 93, i 5700, i 5701)).2.1).2.2.2.2.2.1 from (by unfold cMend; simp only [if_pos bw144, if_neg bw145]; first | done | rfl | (simp only [(show ig137 71 = ig129 71 from kg137.fi 71 rfl), q135, sMn, sMx]; done) | (simp only [(show ig137 71 = ig129 71 from kg137.fi 71 rfl), q135, sMn, sMx]; rfl))), (show ig137 72 = ((cMend (i 64) x1 x2 x3 (a 2, a 3, a 4, a 5, i 70, i 71, i 72) (a 90, a 91, a 92, a 93, i 5700, i 5701)).2.1).2.2.2.2.2.2 from (by unfold cMend; simp only [if_pos bw144, if_neg bw145]; first | done | rfl | (simp only [(show ig137 72 = ig129 72 from kg137.fi 72 rfl), q136, sMn, sMx]; done) | (simp only [(show ig137 72 = ig129 72 from kg137.fi 72 rfl), q136, sMn, sMx]; rfl))), (show ag137 90 = ((cMend (i 64) x1 x2 x3 (a 2, a 3, a 4, a 5, i 70, i 71, i 72) (a 90, a 91, a 92, a 93, i 5700, i 5701)).2.2).1 from (by unfold cMend; simp only [if_pos bw144, if_neg bw145]; first | done | rfl | (simp only [q138, q123, kg129.fa 90 rfl, kg129.fa 91 rfl, kg129.fa 92 rfl, kg129.fa 93 rfl, (show ig129 5700 = i 5700 from kg129.fi 5700 rfl), (show ig129 5701 = i 5701 from kg129.fi 5701 rfl), sMn, sMx]; done) | (simp only [q138, q123, kg129.fa 90 rfl, kg129.fa 91 rfl, kg129.fa 92 rfl, kg129.fa 93 rfl, (show ig129 5700 = i 5700 from kg129.fi 5700 rfl), (show ig129 5701 = i 5701 from kg129.fi 5701 rfl), sMn, sMx]; rfl))), (show ag137 91 = ((cMend (i 64) x1 x2 x3 (a 2, a 3, a 4, a 5, i 70, i 71, i 72) (a 90, a 91, a 92, a 93, i 5700, i 5701)).2.2).2.1 from (by unfold cMend; simp only [if_pos bw144, if_neg bw145]; first | done | rfl | (simp only [q139, q123, kg129.fa 90 rfl, kg129.fa 91 rfl, kg129.fa 92 rfl, kg129.fa 93 rfl, (show ig129 5700 = i 5700 from kg129.fi 5700 rfl), (show ig129 5701 = i 5701 from kg129.fi 5701 rfl), sMn, sMx]; done) | (simp only [q139, q123, kg129.fa 90 rfl, kg129.fa 91 rfl, kg129.fa 92 rfl, kg129.fa 93 rfl, (show ig129 5700 = i 5700 from kg129.fi 5700 rfl), (show ig129 5701 = i 5701 from kg129.fi 5701 rfl), sMn, sMx]; rfl))), (show ag137 92 = ((cMend (i 64) x1 x2 x3 (a 2, a 3, a 4, a 5, i 70, i 71, i 72) (a 90, a 91, a 92, a 93, i 5700, i 5701)).2.2).2.2.1 from (by unfold cMend; simp only [if_pos bw144, if_neg bw145]; first | done | rfl | (simp only [q140, q123, kg129.fa 90 rfl, kg129.fa 91 rfl, kg129.fa 92 rfl, kg129.fa 93 rfl, (show ig129 5700 = i 5700 from kg129.fi 5700 rfl), (show ig129 5701 = i 5701 from kg129.fi 5701 rfl), sMn, sMx]; done) | (simp only [q140, q123, kg129.fa 90 rfl, kg129.fa 91 rfl, kg129.fa 92 rfl, kg129.fa 93 rfl, (show ig129 5700 = i 5700 from kg129.fi 5700 rfl), (show ig129 5701 = i 5701 from kg129.fi 5701 rfl), sMn, sMx]; rfl))), (show ag137 93 = ((cMend (i 64) x1 x2 x3 (a 2, a 3, a 4, a 5, i 70, i 71, i 72) (a 90, a 91, a 92, a 93, i 5700, i 5701)).2.2).2.2.2.1 from (by unfold cMend; simp only [if_pos bw144, if_neg bw145]; first | done | rfl | (simp only [q141, q123, kg129.fa 90 rfl, kg129.fa 91 rfl, kg129.fa 92 rfl, kg129.fa 93 rfl, (show ig129 5700 = i 5700 from kg129.fi 5700 rfl), (show ig129 5701 = i 5701 from kg129.fi 5701 rfl), sMn, sMx]; done) | (simp only [q141, q123, kg129.fa 90 rfl, kg129.fa 91 rfl, kg129.fa 92 rfl, kg129.fa 93 rfl, (show ig129 5700 = i 5700 from kg129.fi 5700 rfl), (show ig129 5701 = i 5701 from kg129.fi 5701 rfl), sMn, sMx]; rfl))), (show ig137 5700 = ((cMend (i 64) x1 x2 x3 (a 2, a 3, a 4, a 5, i 70, i 71, i 72) (a 90, a 91, a 92, a 93, i 5700, i 5701)).2.2).2.2.2.2.1 from (by unfold cMend; simp only [if_pos bw144, if_neg bw145]; first | done | rfl | (simp only [q142, q123, kg129.fa 90 rfl, kg129.fa 91 rfl, kg129.fa 92 rfl, kg129.fa 93 rfl, (show ig129 5700 = i 5700 from kg129.fi 5700 rfl), (show ig129 5701 = i 5701 from kg129.fi 5701 rfl), sMn, sMx]; done) | (simp only [q142, q123, kg129.fa 90 rfl, kg129.fa 91 rfl, kg129.fa 92 rfl, kg129.fa 93 rfl, (show ig129 5700 = i 5700 from kg129.fi 5700 rfl), (show ig129 5701 = i 5701 from kg129.fi 5701 rfl), sMn, sMx]; rfl))), (show ig137 5701 = ((cMend (i 64) x1 x2 x3 (a 2, a 3, a 4, a 5, i 70, i 71, i 72) (a 90, a 91, a 92, a 93, i 5700, i 5701)).2.2).2.2.2.2.2 from (by unfold cMend; simp only [if_pos bw144, if_neg bw145]; first | done | rfl | (simp only [q143, q123, kg129.fa 90 rfl, kg129.fa 91 rfl, kg129.fa 92 rfl, kg129.fa 93 rfl, (show ig129 5700 = i 5700 from kg129.fi 5700 rfl), (show ig129 5701 = i 5701 from kg129.fi 5701 rfl), sMn, sMx]; done) | (simp only [q143, q123, kg129.fa 90 rfl, kg129.fa 91 rfl, kg129.fa 92 rfl, kg129.fa 93 rfl, (show ig129 5700 = i 5700 from kg129.fi 5700 rfl), (show ig129 5701 = i 5701 from kg129.fi 5701 rfl), sMn, sMx]; rfl)))⟩⟩)
      ·
        subst eg120
        have z146 : ¬ (((1 : Int) ≤ x3.toInt) ∧ (x3.toInt ≤ 5)) := hg120
        first | refine fo_goS mi_k83 fz83_6_2_18 [.int (-1)] (by rfl) ?_ | refine fo_goS mi_k83 fz83_14_2_18 [.int (-1)] (by rfl) ?_
        have bw147 : ¬ (kTold (i 64) x1 x2 ∧ kFit x2 x3) := (fun z => absurd ((kFit_4 (ou0 w119)).mp z.2) (ou115 z146))
        exact ft_ret mi_k83 (by rfl) (hP (-1) _ _ _ _ hG ⟨trivial, ⟨(show ((-1) : Int32) = (cMend (i 64) x1 x2 x3 (a 2, a 3, a 4, a 5, i 70, i 71, i 72) (a 90, a 91, a 92, a 93, i 5700, i 5701)).1 from (by unfold cMend; simp only [if_neg bw147]; first | done | rfl | (simp only [sMn, sMx]; done) | (simp only [sMn, sMx]; rfl))), (show a 2 = ((cMend (i 64) x1 x2 x3 (a 2, a 3, a 4, a 5, i 70, i 71, i 72) (a 90, a 91, a 92, a 93, i 5700, i 5701)).2.1).1 from (by unfold cMend; simp only [if_neg bw147]; first | done | rfl | (simp only [sMn, sMx]; done) | (simp only [sMn, sMx]; rfl))), (show a 3 = ((cMend (i 64) x1 x2 x3 (a 2, a 3, a 4, a 5, i 70, i 71, i 72) (a 90, a 91, a 92, a 93, i 5700, i 5701)).2.1).2.1 from (by unfold cMend; simp only [if_neg bw147]; first | done | rfl | (simp only [sMn, sMx]; done) | (simp only [sMn, sMx]; rfl))), (show a 4 = ((cMend (i 64) x1 x2 x3 (a 2, a 3, a 4, a 5, i 70, i 71, i 72) (a 90, a 91, a 92, a 93, i 5700, i 5701)).2.1).2.2.1 from (by unfold cMend; simp only [if_neg bw147]; first | done | rfl | (simp only [sMn, sMx]; done) | (simp only [sMn, sMx]; rfl))), (show a 5 = ((cMend (i 64) x1 x2 x3 (a 2, a 3, a 4, a 5, i 70, i 71, i 72) (a 90, a 91, a 92, a 93, i 5700, i 5701)).2.1).2.2.2.1 from (by unfold cMend; simp only [if_neg bw147]; first | done | rfl | (simp only [sMn, sMx]; done) | (simp only [sMn, sMx]; rfl))), (show i 70 = ((cMend (i 64) x1 x2 x3 (a 2, a 3, a 4, a 5, i 70, i 71, i 72) (a 90, a 91, a 92, a 93, i 5700, i 5701)).2.1).2.2.2.2.1 from (by unfold cMend; simp only [if_neg bw147]; first | done | rfl | (simp only [sMn, sMx]; done) | (simp only [sMn, sMx]; rfl))), (show i 71 = ((cMend (i 64) x1 x2 x3 (a 2, a 3, a 4, a 5, i 70, i 71, i 72) (a 90, a 91, a 92, a 93, i 5700, i 5701)).2.1).2.2.2.2.2.1 from (by unfold cMend; simp only [if_neg bw147]; first | done | rfl | (simp only [sMn, sMx]; done) | (simp only [sMn, sMx]; rfl))), (show i 72 = ((cMend (i 64) x1 x2 x3 (a 2, a 3, a 4, a 5, i 70, i 71, i 72) (a 90, a 91, a 92, a 93, i 5700, i 5701)).2.1).2.2.2.2.2.2 from (by unfold cMend; simp only [if_neg bw147]; first | done | rfl | (simp only [sMn, sMx]; done) | (simp only [sMn, sMx]; rfl))), (show a 90 = ((cMend (i 64) x1 x2 x3 (a 2, a 3, a 4, a 5, i 70, i 71, i 72) (a 90, a 91, a 92, a 93, i 5700, i 5701)).2.2).1 from (by unfold cMend; simp only [if_neg bw147]; first | done | rfl | (simp only [sMn, sMx]; done) | (simp only [sMn, sMx]; rfl))), (show a 91 = ((cMend (i 64) x1 x2 x3 (a 2, a 3, a 4, a 5, i 70, i 71, i 72) (a 90, a 91, a 92, a 93, i 5700, i 5701)).2.2).2.1 from (by unfold cMend; simp only [if_neg bw147]; first | done | rfl | (simp only [sMn, sMx]; done) | (simp only [sMn, sMx]; rfl))), (show a 92 = ((cMend (i 64) x1 x2 x3 (a 2, a 3, a 4, a 5, i 70, i 71, i 72) (a 90, a 91, a 92, a 93, i 5700, i 5701)).2.2).2.2.1 from (by unfold cMend; simp only [if_neg bw147]; first | done | rfl | (simp only [sMn, sMx]; done) | (simp only [sMn, sMx]; rfl))), (show a 93 = ((cMend (i 64) x1 x2 x3 (a 2, a 3, a 4, a 5, i 70, i 71, i 72) (a 90, a 91, a 92, a 93, i 5700, i 5701)).2.2).2.2.2.1 from (by unfold cMend; simp only [if_neg bw147]; first | done | rfl | (simp only [sMn, sMx]; done) | (simp only [sMn, sMx]; rfl))), (show i 5700 = ((cMend (i 64) x1 x2 x3 (a 2, a 3, a 4, a 5, i 70, i 71, i 72) (a 90, a 91, a 92, a 93, i 5700, i 5701)).2.2).2.2.2.2.1 from (by unfold cMend; simp only [if_neg bw147]; first | done | rfl | (simp only [sMn, sMx]; done) | (simp only [sMn, sMx]; rfl))), (show i 5701 = ((cMend (i 64) x1 x2 x3 (a 2, a 3, a 4, a 5, i 70, i 71, i 72) (a 90, a 91, a 92, a 93, i 5700, i 5701)).2.2).2.2.2.2.2 from (by unfold cMend; simp only [if_neg bw147]; first | done | rfl | (simp only [sMn, sMx]; done) | (simp only [sMn, sMx]; rfl)))⟩⟩)
    by_cases w148 : x2.toInt = 5
    ·
      refine ko_eq (x1 := (11, [(0, .ref 0), (1, .int x1), (2, .int x2), (3, .int x3)], [.int x3, .int 5], (0, 0), ks i a q r)) (by rw [(kj_eq w148 (by decide) : x2 = 5)]) ?_
      refine ko_callPI mi_k83.1 (pc := 11) (ls := [(0, .ref 0), (1, .int x1), (2, .int x2), (3, .int x3)]) (st := [.int x3, .int 5]) (h := ks i a q r) (i := (.invokestatic 58, 3, 126, 0, 9, 0, 151)) (mi_k83.2 _ _ (by rfl)) (ft_invS mi_pq126 (by rfl)) (cy := mi_c126) mi_pq126 rfl (ke126_l05 hG.I hG.R x3) (by decide) ?_
      intro vg149 hg149
      rcases hg149 with ⟨eg149, hg149⟩ | ⟨eg149, hg149⟩
      ·
        subst eg149
        have z150 : ((0 : Int) ≤ x3.toInt) ∧ (x3.toInt ≤ 1) := hg149
        refine fo_goS mi_k83 fz83_14_5_25 [.int x2, .int x1, .ref 1] rfl ?_
        refine ko_callPI mi_k83.1 (pc := 25) (ls := [(0, .ref 0), (1, .int x1), (2, .int x2), (3, .int x3)]) (st := [.int x2, .int x1, .ref 1]) (h := ks i a q r) (i := (.invokevirtual 98, 3, 27, 0, 9, 0, 164)) (mi_k83.2 _ _ (by rfl)) (ft_invS mi_pq27 (by rfl)) (cy := mi_c27) mi_pq27 rfl (ke27_1 hG.I hG.R x1 x2) (by decide) ?_
        intro vg151 hg151
        obtain ⟨hg151, og151⟩ := hg151
        have q152 : vg151 = cGet (i 64) x1 x2 (a 2, a 3, a 4, a 5, i 70, i 71, i 72) := og151
        have u153 : vg151.toInt = (cGet (i 64) x1 x2 (a 2, a 3, a 4, a 5, i 70, i 71, i 72)).toInt := congrArg Int32.toInt q152
        refine fo_goL mi_k83 fz83_28_3_33 [(4, .int vg151), (0, .ref 0), (1, .int x1), (2, .int x2), (3, .int x3)] [.int x3, .int vg151] rfl ?_
        refine ft_ifS mi_k83 (vg151 == x3) 58 36 [] (by rfl) (fun c => ?_) (fun c => ?_)
        ·
          have c154 : vg151.toInt = x3.toInt := kd_eq c; clear c
          refine fo_goS mi_k83 fz83_58_1_60 [.int vg151] rfl ?_
          have bw155 : (kTold (i 64) x1 x2 ∧ kFit x2 x3) := ⟨(ou119 w148 z2), (kFit_5 (ou2 w148)).mpr (ou106 z150.1 z150.2)⟩
          have bw156 : (cGet (i 64) x1 x2 (a 2, a 3, a 4, a 5, i 70, i 71, i 72)).toInt = x3.toInt := (ou85 c154 u153)
          exact ft_ret mi_k83 (by rfl) (hP vg151 _ _ _ _ hG ⟨trivial, ⟨(show vg151 = (cMend (i 64) x1 x2 x3 (a 2, a 3, a 4, a 5, i 70, i 71, i 72) (a 90, a 91, a 92, a 93, i 5700, i 5701)).1 from (by unfold cMend; simp only [if_pos bw155, if_pos bw156]; first | done | rfl | (simp only [q152, sMn, sMx]; done) | (simp only [q152, sMn, sMx]; rfl))), (show a 2 = ((cMend (i 64) x1 x2 x3 (a 2, a 3, a 4, a 5, i 70, i 71, i 72) (a 90, a 91, a 92, a 93, i 5700, i 5701)).2.1).1 from (by unfold cMend; simp only [if_pos bw155, if_pos bw156]; first | done | rfl | (simp only [sMn, sMx]; done) | (simp only [sMn, sMx]; rfl))), (show a 3 = ((cMend (i 64) x1 x2 x3 (a 2, a 3, a 4, a 5, i 70, i 71, i 72) (a 90, a 91, a 92, a 93, i 5700, i 5701)).2.1).2.1 from (by unfold cMend; simp only [if_pos bw155, if_pos bw156]; first | done | rfl | (simp only [sMn, sMx]; done) | (simp only [sMn, sMx]; rfl))), (show a 4 = ((cMend (i 64) x1 x2 x3 (a 2, a 3, a 4, a 5, i 70, i 71, i 72) (a 90, a 91, a 92, a 93, i 5700, i 5701)).2.1).2.2.1 from (by unfold cMend; simp only [if_pos bw155, if_pos bw156]; first | done | rfl | (simp only [sMn, sMx]; done) | (simp only [sMn, sMx]; rfl))), (show a 5 = ((cMend (i 64) x1 x2 x3 (a 2, a 3, a 4, a 5, i 70, i 71, i 72) (a 90, a 91, a 92, a 93, i 5700, i 5701)).2.1).2.2.2.1 from (by unfold cMend; simp only [if_pos bw155, if_pos bw156]; first | done | rfl | (simp only [sMn, sMx]; done) | (simp only [sMn, sMx]; rfl))), (show i 70 = ((cMend (i 64) x1 x2 x3 (a 2, a 3, a 4, a 5, i 70, i 71, i 72) (a 90, a 91, a 92, a 93, i 5700, i 5701)).2.1).2.2.2.2.1 from (by unfold cMend; simp only [if_pos bw155, if_pos bw156]; first | done | rfl | (simp only [sMn, sMx]; done) | (simp only [sMn, sMx]; rfl))), (show i 71 = ((cMend (i 64) x1 x2 x3 (a 2, a 3, a 4, a 5, i 70, i 71, i 72) (a 90, a 91, a 92, a 93, i 5700, i 5701)).2.1).2.2.2.2.2.1 from (by unfold cMend; simp only [if_pos bw155, if_pos bw156]; first | done | rfl | (simp only [sMn, sMx]; done) | (simp only [sMn, sMx]; rfl))), (show i 72 = ((cMend (i 64) x1 x2 x3 (a 2, a 3, a 4, a 5, i 70, i 71, i 72) (a 90, a 91, a 92, a 93, i 5700, i 5701)).2.1).2.2.2.2.2.2 from (by unfold cMend; simp only [if_pos bw155, if_pos bw156]; first | done | rfl | (simp only [sMn, sMx]; done) | (simp only [sMn, sMx]; rfl))), (show a 90 = ((cMend (i 64) x1 x2 x3 (a 2, a 3, a 4, a 5, i 70, i 71, i 72) (a 90, a 91, a 92, a 93, i 5700, i 5701)).2.2).1 from (by unfold cMend; simp only [if_pos bw155, if_pos bw156]; first | done | rfl | (simp only [sMn, sMx]; done) | (simp only [sMn, sMx]; rfl))), (show a 91 = ((cMend (i 64) x1 x2 x3 (a 2, a 3, a 4, a 5, i 70, i 71, i 72) (a 90, a 91, a 92, a 93, i 5700, i 5701)).2.2).2.1 from (by unfold cMend; simp only [if_pos bw155, if_pos bw156]; first | done | rfl | (simp only [sMn, sMx]; done) | (simp only [sMn, sMx]; rfl))), (show a 92 = ((cMend (i 64) x1 x2 x3 (a 2, a 3, a 4, a 5, i 70, i 71, i 72) (a 90, a 91, a 92, a 93, i 5700, i 5701)).2.2).2.2.1 from (by unfold cMend; simp only [if_pos bw155, if_pos bw156]; first | done | rfl | (simp only [sMn, sMx]; done) | (simp only [sMn, sMx]; rfl))), (show a 93 = ((cMend (i 64) x1 x2 x3 (a 2, a 3, a 4, a 5, i 70, i 71, i 72) (a 90, a 91, a 92, a 93, i 5700, i 5701)).2.2).2.2.2.1 from (by unfold cMend; simp only [if_pos bw155, if_pos bw156]; first | done | rfl | (simp only [sMn, sMx]; done) | (simp only [sMn, sMx]; rfl))), (show i 5700 = ((cMend (i 64) x1 x2 x3 (a 2, a 3, a 4, a 5, i 70, i 71, i 72) (a 90, a 91, a 92, a 93, i 5700, i 5701)).2.2).2.2.2.2.1 from (by unfold cMend; simp only [if_pos bw155, if_pos bw156]; first | done | rfl | (simp only [sMn, sMx]; done) | (simp only [sMn, sMx]; rfl))), (show i 5701 = ((cMend (i 64) x1 x2 x3 (a 2, a 3, a 4, a 5, i 70, i 71, i 72) (a 90, a 91, a 92, a 93, i 5700, i 5701)).2.2).2.2.2.2.2 from (by unfold cMend; simp only [if_pos bw155, if_pos bw156]; first | done | rfl | (simp only [sMn, sMx]; done) | (simp only [sMn, sMx]; rfl)))⟩⟩)
        ·
          have c157 : vg151.toInt ≠ x3.toInt := kd_eqF c; clear c
          refine fo_goS mi_k83 fz83_36_5_43 [.int x3, .int x2, .int x1, .ref 1] rfl ?_
          refine ko_callN mi_k83.1 (pc := 43) (ls := [(4, .int vg151), (0, .ref 0), (1, .int x1), (2, .int x2), (3, .int x3)]) (st := [.int x3, .int x2, .int x1, .ref 1]) (h := ks i a q r) (i := (.invokevirtual 102, 3, 28, 0, 9, 0, 167)) (mi_k83.2 _ _ (by rfl)) (ft_invS mi_pq28 (by rfl)) (cy := mi_c28) mi_pq28 rfl (ke28_1 hG.I hG.R x1 x2 x3) (by decide) ?_
          intro ig158 ag158 qg158 rg158 kg158 hg158
          have hGg158 := kG_call hG kg158 (by decide +kernel)
          obtain ⟨hg158, og158⟩ := hg158
          have q159 : ag158 2 = (cSet (i 64) x1 x2 x3 (a 2, a 3, a 4, a 5, i 70, i 71, i 72)).1 := og158.1
          have q160 : ag158 3 = (cSet (i 64) x1 x2 x3 (a 2, a 3, a 4, a 5, i 70, i 71, i 72)).2.1 := og158.2.1
          have q161 : ag158 4 = (cSet (i 64) x1 x2 x3 (a 2, a 3, a 4, a 5, i 70, i 71, i 72)).2.2.1 := og158.2.2.1
          have q162 : ag158 5 = (cSet (i 64) x1 x2 x3 (a 2, a 3, a 4, a 5, i 70, i 71, i 72)).2.2.2.1 := og158.2.2.2.1
          have q163 : ig158 70 = (cSet (i 64) x1 x2 x3 (a 2, a 3, a 4, a 5, i 70, i 71, i 72)).2.2.2.2.1 := og158.2.2.2.2.1
          have q164 : ig158 71 = (cSet (i 64) x1 x2 x3 (a 2, a 3, a 4, a 5, i 70, i 71, i 72)).2.2.2.2.2.1 := og158.2.2.2.2.2.1
          have q165 : ig158 72 = (cSet (i 64) x1 x2 x3 (a 2, a 3, a 4, a 5, i 70, i 71, i 72)).2.2.2.2.2.2 := og158.2.2.2.2.2.2
          refine fo_goS mi_k83 fz83_46_6_55 [.int x3, .int vg151, .int x2, .int x1, .ref 89] rfl ?_
          refine ko_callN mi_k83.1 (pc := 55) (ls := [(4, .int vg151), (0, .ref 0), (1, .int x1), (2, .int x2), (3, .int x3)]) (st := [.int x3, .int vg151, .int x2, .int x1, .ref 89]) (h := ks ig158 ag158 qg158 rg158) (i := (.invokevirtual 106, 3, 5, 0, 9, 0, 168)) (mi_k83.2 _ _ (by rfl)) (ft_invS mi_pq5 (by rfl)) (cy := mi_c5) mi_pq5 rfl (ke5_89 hGg158.I hGg158.R x1 x2 vg151 x3) (by decide) ?_
          intro ig166 ag166 qg166 rg166 kg166 hg166
          have hGg166 := kG_call hGg158 kg166 (by decide +kernel)
          obtain ⟨hg166, og166⟩ := hg166
          have q167 : ag166 90 = (nAdd x1 x2 vg151 x3 (ag158 90, ag158 91, ag158 92, ag158 93, ig158 5700, ig158 5701)).1 := og166.1
          have q168 : ag166 91 = (nAdd x1 x2 vg151 x3 (ag158 90, ag158 91, ag158 92, ag158 93, ig158 5700, ig158 5701)).2.1 := og166.2.1
          have q169 : ag166 92 = (nAdd x1 x2 vg151 x3 (ag158 90, ag158 91, ag158 92, ag158 93, ig158 5700, ig158 5701)).2.2.1 := og166.2.2.1
          have q170 : ag166 93 = (nAdd x1 x2 vg151 x3 (ag158 90, ag158 91, ag158 92, ag158 93, ig158 5700, ig158 5701)).2.2.2.1 := og166.2.2.2.1
          have q171 : ig166 5700 = (nAdd x1 x2 vg151 x3 (ag158 90, ag158 91, ag158 92, ag158 93, ig158 5700, ig158 5701)).2.2.2.2.1 := og166.2.2.2.2.1
          have q172 : ig166 5701 = (nAdd x1 x2 vg151 x3 (ag158 90, ag158 91, ag158 92, ag158 93, ig158 5700, ig158 5701)).2.2.2.2.2 := og166.2.2.2.2.2
          refine fo_goS mi_k83 fz83_58_1_60 [.int vg151] rfl ?_
          have bw173 : (kTold (i 64) x1 x2 ∧ kFit x2 x3) := ⟨(ou119 w148 z2), (kFit_5 (ou2 w148)).mpr (ou106 z150.1 z150.2)⟩
          have bw174 : ¬ ((cGet (i 64) x1 x2 (a 2, a 3, a 4, a 5, i 70, i 71, i 72)).toInt = x3.toInt) := (ou86 c157 u153)
          exact ft_ret mi_k83 (by rfl) (hP vg151 _ _ _ _ hGg166 ⟨trivial, ⟨(show vg151 = (cMend (i 64) x1 x2 x3 (a 2, a 3, a 4, a 5, i 70, i 71, i 72) (a 90, a 91, a 92, a 93, i 5700, i 5701)).1 from (by unfold cMend; simp only [if_pos bw173, if_neg bw174]; first | done | rfl | (simp only [q152, sMn, sMx]; done) | (simp only [q152, sMn, sMx]; rfl))), (show ag166 2 = ((cMend (i 64) x1 x2 x3 (a 2, a 3, a 4, a 5, i 70, i 71, i 72) (a 90, a 91, a 92, a 93, i 5700, i 5701)).2.1).1 from (by unfold cMend; simp only [if_pos bw173, if_neg bw174]; first | done | rfl | (simp only [kg166.fa 2 rfl, q159, sMn, sMx]; done) | (simp only [kg166.fa 2 rfl, q159, sMn, sMx]; rfl))), (show ag166 3 = ((cMend (i 64) x1 x2 x3 (a 2, a 3, a 4, a 5, i 70, i 71, i 72) (a 90, a 91, a 92, a 93, i 5700, i 5701)).2.1).2.1 from (by unfold cMend; simp only [if_pos bw173, if_neg bw174]; first | done | rfl | (simp only [kg166.fa 3 rfl, q160, sMn, sMx]; done) | (simp only [kg166.fa 3 rfl, q160, sMn, sMx]; rfl))), (show ag166 4 = ((cMend (i 64) x1 x2 x3 (a 2, a 3, a 4, a 5, i 70, i 71, i 72) (a 90, a 91, a 92, a 93, i 5700, i 5701)).2.1).2.2.1 from (by unfold cMend; simp only [if_pos bw173, if_neg bw174]; first | done | rfl | (simp only [kg166.fa 4 rfl, q161, sMn, sMx]; done) | (simp only [kg166.fa 4 rfl, q161, sMn, sMx]; rfl))), (show ag166 5 = ((cMend (i 64) x1 x2 x3 (a 2, a 3, a 4, a 5, i 70, i 71, i 72) (a 90, a 91, a 92, a 93, i 5700, i 5701)).2.1).2.2.2.1 from (by unfold cMend; simp only [if_pos bw173, if_neg bw174]; first | done | rfl | (simp only [kg166.fa 5 rfl, q162, sMn, sMx]; done) | (simp only [kg166.fa 5 rfl, q162, sMn, sMx]; rfl))), (show ig166 70 = ((cMend (i 64) x1 x2 x3 (a 2, a 3, a 4, a 5, i 70, i 71, i 72) (a 90, a 91, a 92, a 93, i 5700, i 5701)).2.1).2.2.2.2.1 from (by unfold cMend; simp only [if_pos bw173, if_neg bw174]; first | done | rfl | (simp only [(show ig166 70 = ig158 70 from kg166.fi 70 rfl), q163, sMn, sMx]; done) | (simp only [(show ig166 70 = ig158 70 from kg166.fi 70 rfl), q163, sMn, sMx]; rfl))), (show ig166 71 = ((cMend (i 64) x1 x2 x3 (a 2, a 3, a 4, a 5, i 70, i 71, i 72) (a 90, a 91, a 92, a 93, i 5700, i 5701)).2.1).2.2.2.2.2.1 from (by unfold cMend; simp only [if_pos bw173, if_neg bw174]; first | done | rfl | (simp only [(show ig166 71 = ig158 71 from kg166.fi 71 rfl), q164, sMn, sMx]; done) | (simp only [(show ig166 71 = ig158 71 from kg166.fi 71 rfl), q164, sMn, sMx]; rfl))), (show ig166 72 = ((cMend (i 64) x1 x2 x3 (a 2, a 3, a 4, a 5, i 70, i 71, i 72) (a 90, a 91, a 92, a 93, i 5700, i 5701)).2.1).2.2.2.2.2.2 from (by unfold cMend; simp only [if_pos bw173, if_neg bw174]; first | done | rfl | (simp only [(show ig166 72 = ig158 72 from kg166.fi 72 rfl), q165, sMn, sMx]; done) | (simp only [(show ig166 72 = ig158 72 from kg166.fi 72 rfl), q165, sMn, sMx]; rfl))), (show ag166 90 = ((cMend (i 64) x1 x2 x3 (a 2, a 3, a 4, a 5, i 70, i 71, i 72) (a 90, a 91, a 92, a 93, i 5700, i 5701)).2.2).1 from (by unfold cMend; simp only [if_pos bw173, if_neg bw174]; first | done | rfl | (simp only [q167, q152, kg158.fa 90 rfl, kg158.fa 91 rfl, kg158.fa 92 rfl, kg158.fa 93 rfl, (show ig158 5700 = i 5700 from kg158.fi 5700 rfl), (show ig158 5701 = i 5701 from kg158.fi 5701 rfl), sMn, sMx]; done) | (simp only [q167, q152, kg158.fa 90 rfl, kg158.fa 91 rfl, kg158.fa 92 rfl, kg158.fa 93 rfl, (show ig158 5700 = i 5700 from kg158.fi 5700 rfl), (show ig158 5701 = i 5701 from kg158.fi 5701 rfl), sMn, sMx]; rfl))), (show ag166 91 = ((cMend (i 64) x1 x2 x3 (a 2, a 3, a 4, a 5, i 70, i 71, i 72) (a 90, a 91, a 92, a 93, i 5700, i 5701)).2.2).2.1 from (by unfold cMend; simp only [if_pos bw173, if_neg bw174]; first | done | rfl | (simp only [q168, q152, kg158.fa 90 rfl, kg158.fa 91 rfl, kg158.fa 92 rfl, kg158.fa 93 rfl, (show ig158 5700 = i 5700 from kg158.fi 5700 rfl), (show ig158 5701 = i 5701 from kg158.fi 5701 rfl), sMn, sMx]; done) | (simp only [q168, q152, kg158.fa 90 rfl, kg158.fa 91 rfl, kg158.fa 92 rfl, kg158.fa 93 rfl, (show ig158 5700 = i 5700 from kg158.fi 5700 rfl), (show ig158 5701 = i 5701 from kg158.fi 5701 rfl), sMn, sMx]; rfl))), (show ag166 92 = ((cMend (i 64) x1 x2 x3 (a 2, a 3, a 4, a 5, i 70, i 71, i 72) (a 90, a 91, a 92, a 93, i 5700, i 5701)).2.2).2.2.1 from (by unfold cMend; simp only [if_pos bw173, if_neg bw174]; first | done | rfl | (simp only [q169, q152, kg158.fa 90 rfl, kg158.fa 91 rfl, kg158.fa 92 rfl, kg158.fa 93 rfl, (show ig158 5700 = i 5700 from kg158.fi 5700 rfl), (show ig158 5701 = i 5701 from kg158.fi 5701 rfl), sMn, sMx]; done) | (simp only [q169, q152, kg158.fa 90 rfl, kg158.fa 91 rfl, kg158.fa 92 rfl, kg158.fa 93 rfl, (show ig158 5700 = i 5700 from kg158.fi 5700 rfl), (show ig158 5701 = i 5701 from kg158.fi 5701 rfl), sMn, sMx]; rfl))), (show ag166 93 = ((cMend (i 64) x1 x2 x3 (a 2, a 3, a 4, a 5, i 70, i 71, i 72) (a 90, a 91, a 92, a 93, i 5700, i 5701)).2.2).2.2.2.1 from (by unfold cMend; simp only [if_pos bw173, if_neg bw174]; first | done | rfl | (simp only [q170, q152, kg158.fa 90 rfl, kg158.fa 91 rfl, kg158.fa 92 rfl, kg158.fa 93 rfl, (show ig158 5700 = i 5700 from kg158.fi 5700 rfl), (show ig158 5701 = i 5701 from kg158.fi 5701 rfl), sMn, sMx]; done) | (simp only [q170, q152, kg158.fa 90 rfl, kg158.fa 91 rfl, kg158.fa 92 rfl, kg158.fa 93 rfl, (show ig158 5700 = i 5700 from kg158.fi 5700 rfl), (show ig158 5701 = i 5701 from kg158.fi 5701 rfl), sMn, sMx]; rfl))), (show ig166 5700 = ((cMend (i 64) x1 x2 x3 (a 2, a 3, a 4, a 5, i 70, i 71, i 72) (a 90, a 91, a 92, a 93, i 5700, i 5701)).2.2).2.2.2.2.1 from (by unfold cMend; simp only [if_pos bw173, if_neg bw174]; first | done | rfl | (simp only [q171, q152, kg158.fa 90 rfl, kg158.fa 91 rfl, kg158.fa 92 rfl, kg158.fa 93 rfl, (show ig158 5700 = i 5700 from kg158.fi 5700 rfl), (show ig158 5701 = i 5701 from kg158.fi 5701 rfl), sMn, sMx]; done) | (simp only [q171, q152, kg158.fa 90 rfl, kg158.fa 91 rfl, kg158.fa 92 rfl, kg158.fa 93 rfl, (show ig158 5700 = i 5700 from kg158.fi 5700 rfl), (show ig158 5701 = i 5701 from kg158.fi 5701 rfl), sMn, sMx]; rfl))), (show ig166 5701 = ((cMend (i 64) x1 x2 x3 (a 2, a 3, a 4, a 5, i 70, i 71, i 72) (a 90, a 91, a 92, a 93, i 5700, i 5701)).2.2).2.2.2.2.2 from (by unfold cMend; simp only [if_pos bw173, if_neg bw174]; first | done | rfl | (simp only [q172, q152, kg158.fa 90 rfl, kg158.fa 91 rfl, kg158.fa 92 rfl, kg158.fa 93 rfl, (show ig158 5700 = i 5700 from kg158.fi 5700 rfl), (show ig158 5701 = i 5701 from kg158.fi 5701 rfl), sMn, sMx]; done) | (simp only [q172, q152, kg158.fa 90 rfl, kg158.fa 91 rfl, kg158.fa 92 rfl, kg158.fa 93 rfl, (show ig158 5700 = i 5700 from kg158.fi 5700 rfl), (show ig158 5701 = i 5701 from kg158.fi 5701 rfl), sMn, sMx]; rfl)))⟩⟩)
      ·
        subst eg149
        have z175 : ¬ (((0 : Int) ≤ x3.toInt) ∧ (x3.toInt ≤ 1)) := hg149
        first | refine fo_goS mi_k83 fz83_6_2_18 [.int (-1)] (by rfl) ?_ | refine fo_goS mi_k83 fz83_14_2_18 [.int (-1)] (by rfl) ?_
        have bw176 : ¬ (kTold (i 64) x1 x2 ∧ kFit x2 x3) := (fun z => absurd ((kFit_5 (ou2 w148)).mp z.2) (ou107 z175))
        exact ft_ret mi_k83 (by rfl) (hP (-1) _ _ _ _ hG ⟨trivial, ⟨(show ((-1) : Int32) = (cMend (i 64) x1 x2 x3 (a 2, a 3, a 4, a 5, i 70, i 71, i 72) (a 90, a 91, a 92, a 93, i 5700, i 5701)).1 from (by unfold cMend; simp only [if_neg bw176]; first | done | rfl | (simp only [sMn, sMx]; done) | (simp only [sMn, sMx]; rfl))), (show a 2 = ((cMend (i 64) x1 x2 x3 (a 2, a 3, a 4, a 5, i 70, i 71, i 72) (a 90, a 91, a 92, a 93, i 5700, i 5701)).2.1).1 from (by unfold cMend; simp only [if_neg bw176]; first | done | rfl | (simp only [sMn, sMx]; done) | (simp only [sMn, sMx]; rfl))), (show a 3 = ((cMend (i 64) x1 x2 x3 (a 2, a 3, a 4, a 5, i 70, i 71, i 72) (a 90, a 91, a 92, a 93, i 5700, i 5701)).2.1).2.1 from (by unfold cMend; simp only [if_neg bw176]; first | done | rfl | (simp only [sMn, sMx]; done) | (simp only [sMn, sMx]; rfl))), (show a 4 = ((cMend (i 64) x1 x2 x3 (a 2, a 3, a 4, a 5, i 70, i 71, i 72) (a 90, a 91, a 92, a 93, i 5700, i 5701)).2.1).2.2.1 from (by unfold cMend; simp only [if_neg bw176]; first | done | rfl | (simp only [sMn, sMx]; done) | (simp only [sMn, sMx]; rfl))), (show a 5 = ((cMend (i 64) x1 x2 x3 (a 2, a 3, a 4, a 5, i 70, i 71, i 72) (a 90, a 91, a 92, a 93, i 5700, i 5701)).2.1).2.2.2.1 from (by unfold cMend; simp only [if_neg bw176]; first | done | rfl | (simp only [sMn, sMx]; done) | (simp only [sMn, sMx]; rfl))), (show i 70 = ((cMend (i 64) x1 x2 x3 (a 2, a 3, a 4, a 5, i 70, i 71, i 72) (a 90, a 91, a 92, a 93, i 5700, i 5701)).2.1).2.2.2.2.1 from (by unfold cMend; simp only [if_neg bw176]; first | done | rfl | (simp only [sMn, sMx]; done) | (simp only [sMn, sMx]; rfl))), (show i 71 = ((cMend (i 64) x1 x2 x3 (a 2, a 3, a 4, a 5, i 70, i 71, i 72) (a 90, a 91, a 92, a 93, i 5700, i 5701)).2.1).2.2.2.2.2.1 from (by unfold cMend; simp only [if_neg bw176]; first | done | rfl | (simp only [sMn, sMx]; done) | (simp only [sMn, sMx]; rfl))), (show i 72 = ((cMend (i 64) x1 x2 x3 (a 2, a 3, a 4, a 5, i 70, i 71, i 72) (a 90, a 91, a 92, a 93, i 5700, i 5701)).2.1).2.2.2.2.2.2 from (by unfold cMend; simp only [if_neg bw176]; first | done | rfl | (simp only [sMn, sMx]; done) | (simp only [sMn, sMx]; rfl))), (show a 90 = ((cMend (i 64) x1 x2 x3 (a 2, a 3, a 4, a 5, i 70, i 71, i 72) (a 90, a 91, a 92, a 93, i 5700, i 5701)).2.2).1 from (by unfold cMend; simp only [if_neg bw176]; first | done | rfl | (simp only [sMn, sMx]; done) | (simp only [sMn, sMx]; rfl))), (show a 91 = ((cMend (i 64) x1 x2 x3 (a 2, a 3, a 4, a 5, i 70, i 71, i 72) (a 90, a 91, a 92, a 93, i 5700, i 5701)).2.2).2.1 from (by unfold cMend; simp only [if_neg bw176]; first | done | rfl | (simp only [sMn, sMx]; done) | (simp only [sMn, sMx]; rfl))), (show a 92 = ((cMend (i 64) x1 x2 x3 (a 2, a 3, a 4, a 5, i 70, i 71, i 72) (a 90, a 91, a 92, a 93, i 5700, i 5701)).2.2).2.2.1 from (by unfold cMend; simp only [if_neg bw176]; first | done | rfl | (simp only [sMn, sMx]; done) | (simp only [sMn, sMx]; rfl))), (show a 93 = ((cMend (i 64) x1 x2 x3 (a 2, a 3, a 4, a 5, i 70, i 71, i 72) (a 90, a 91, a 92, a 93, i 5700, i 5701)).2.2).2.2.2.1 from (by unfold cMend; simp only [if_neg bw176]; first | done | rfl | (simp only [sMn, sMx]; done) | (simp only [sMn, sMx]; rfl))), (show i 5700 = ((cMend (i 64) x1 x2 x3 (a 2, a 3, a 4, a 5, i 70, i 71, i 72) (a 90, a 91, a 92, a 93, i 5700, i 5701)).2.2).2.2.2.2.1 from (by unfold cMend; simp only [if_neg bw176]; first | done | rfl | (simp only [sMn, sMx]; done) | (simp only [sMn, sMx]; rfl))), (show i 5701 = ((cMend (i 64) x1 x2 x3 (a 2, a 3, a 4, a 5, i 70, i 71, i 72) (a 90, a 91, a 92, a 93, i 5700, i 5701)).2.2).2.2.2.2.2 from (by unfold cMend; simp only [if_neg bw176]; first | done | rfl | (simp only [sMn, sMx]; done) | (simp only [sMn, sMx]; rfl)))⟩⟩)
    by_cases w177 : x2.toInt = 6
    ·
      refine ko_eq (x1 := (11, [(0, .ref 0), (1, .int x1), (2, .int x2), (3, .int x3)], [.int x3, .int 6], (0, 0), ks i a q r)) (by rw [(kj_eq w177 (by decide) : x2 = 6)]) ?_
      refine ko_callPI mi_k83.1 (pc := 11) (ls := [(0, .ref 0), (1, .int x1), (2, .int x2), (3, .int x3)]) (st := [.int x3, .int 6]) (h := ks i a q r) (i := (.invokestatic 58, 3, 126, 0, 9, 0, 151)) (mi_k83.2 _ _ (by rfl)) (ft_invS mi_pq126 (by rfl)) (cy := mi_c126) mi_pq126 rfl (ke126_l06 hG.I hG.R x3) (by decide) ?_
      intro vg178 hg178
      rcases hg178 with ⟨eg178, hg178⟩ | ⟨eg178, hg178⟩
      ·
        subst eg178
        have z179 : ((0 : Int) ≤ x3.toInt) ∧ (x3.toInt ≤ 99) := hg178
        refine fo_goS mi_k83 fz83_14_5_25 [.int x2, .int x1, .ref 1] rfl ?_
        refine ko_callPI mi_k83.1 (pc := 25) (ls := [(0, .ref 0), (1, .int x1), (2, .int x2), (3, .int x3)]) (st := [.int x2, .int x1, .ref 1]) (h := ks i a q r) (i := (.invokevirtual 98, 3, 27, 0, 9, 0, 164)) (mi_k83.2 _ _ (by rfl)) (ft_invS mi_pq27 (by rfl)) (cy := mi_c27) mi_pq27 rfl (ke27_1 hG.I hG.R x1 x2) (by decide) ?_
        intro vg180 hg180
        obtain ⟨hg180, og180⟩ := hg180
        have q181 : vg180 = cGet (i 64) x1 x2 (a 2, a 3, a 4, a 5, i 70, i 71, i 72) := og180
        have u182 : vg180.toInt = (cGet (i 64) x1 x2 (a 2, a 3, a 4, a 5, i 70, i 71, i 72)).toInt := congrArg Int32.toInt q181
        refine fo_goL mi_k83 fz83_28_3_33 [(4, .int vg180), (0, .ref 0), (1, .int x1), (2, .int x2), (3, .int x3)] [.int x3, .int vg180] rfl ?_
        refine ft_ifS mi_k83 (vg180 == x3) 58 36 [] (by rfl) (fun c => ?_) (fun c => ?_)
        ·
          have c183 : vg180.toInt = x3.toInt := kd_eq c; clear c
          refine fo_goS mi_k83 fz83_58_1_60 [.int vg180] rfl ?_
          have bw184 : (kTold (i 64) x1 x2 ∧ kFit x2 x3) := ⟨(ou125 w177 z2), (kFit_6 (ou5 w177)).mpr (ou126 z179.1 z179.2)⟩
          have bw185 : (cGet (i 64) x1 x2 (a 2, a 3, a 4, a 5, i 70, i 71, i 72)).toInt = x3.toInt := (ou85 c183 u182)
          exact ft_ret mi_k83 (by rfl) (hP vg180 _ _ _ _ hG ⟨trivial, ⟨(show vg180 = (cMend (i 64) x1 x2 x3 (a 2, a 3, a 4, a 5, i 70, i 71, i 72) (a 90, a 91, a 92, a 93, i 5700, i 5701)).1 from (by unfold cMend; simp only [if_pos bw184, if_pos bw185]; first | done | rfl | (simp only [q181, sMn, sMx]; done) | (simp only [q181, sMn, sMx]; rfl))), (show a 2 = ((cMend (i 64) x1 x2 x3 (a 2, a 3, a 4, a 5, i 70, i 71, i 72) (a 90, a 91, a 92, a 93, i 5700, i 5701)).2.1).1 from (by unfold cMend; simp only [if_pos bw184, if_pos bw185]; first | done | rfl | (simp only [sMn, sMx]; done) | (simp only [sMn, sMx]; rfl))), (show a 3 = ((cMend (i 64) x1 x2 x3 (a 2, a 3, a 4, a 5, i 70, i 71, i 72) (a 90, a 91, a 92, a 93, i 5700, i 5701)).2.1).2.1 from (by unfold cMend; simp only [if_pos bw184, if_pos bw185]; first | done | rfl | (simp only [sMn, sMx]; done) | (simp only [sMn, sMx]; rfl))), (show a 4 = ((cMend (i 64) x1 x2 x3 (a 2, a 3, a 4, a 5, i 70, i 71, i 72) (a 90, a 91, a 92, a 93, i 5700, i 5701)).2.1).2.2.1 from (by unfold cMend; simp only [if_pos bw184, if_pos bw185]; first | done | rfl | (simp only [sMn, sMx]; done) | (simp only [sMn, sMx]; rfl))), (show a 5 = ((cMend (i 64) x1 x2 x3 (a 2, a 3, a 4, a 5, i 70, i 71, i 72) (a 90, a 91, a 92, a 93, i 5700, i 5701)).2.1).2.2.2.1 from (by unfold cMend; simp only [if_pos bw184, if_pos bw185]; first | done | rfl | (simp only [sMn, sMx]; done) | (simp only [sMn, sMx]; rfl))), (show i 70 = ((cMend (i 64) x1 x2 x3 (a 2, a 3, a 4, a 5, i 70, i 71, i 72) (a 90, a 91, a 92, a 93, i 5700, i 5701)).2.1).2.2.2.2.1 from (by unfold cMend; simp only [if_pos bw184, if_pos bw185]; first | done | rfl | (simp only [sMn, sMx]; done) | (simp only [sMn, sMx]; rfl))), (show i 71 = ((cMend (i 64) x1 x2 x3 (a 2, a 3, a 4, a 5, i 70, i 71, i 72) (a 90, a 91, a 92, a 93, i 5700, i 5701)).2.1).2.2.2.2.2.1 from (by unfold cMend; simp only [if_pos bw184, if_pos bw185]; first | done | rfl | (simp only [sMn, sMx]; done) | (simp only [sMn, sMx]; rfl))), (show i 72 = ((cMend (i 64) x1 x2 x3 (a 2, a 3, a 4, a 5, i 70, i 71, i 72) (a 90, a 91, a 92, a 93, i 5700, i 5701)).2.1).2.2.2.2.2.2 from (by unfold cMend; simp only [if_pos bw184, if_pos bw185]; first | done | rfl | (simp only [sMn, sMx]; done) | (simp only [sMn, sMx]; rfl))), (show a 90 = ((cMend (i 64) x1 x2 x3 (a 2, a 3, a 4, a 5, i 70, i 71, i 72) (a 90, a 91, a 92, a 93, i 5700, i 5701)).2.2).1 from (by unfold cMend; simp only [if_pos bw184, if_pos bw185]; first | done | rfl | (simp only [sMn, sMx]; done) | (simp only [sMn, sMx]; rfl))), (show a 91 = ((cMend (i 64) x1 x2 x3 (a 2, a 3, a 4, a 5, i 70, i 71, i 72) (a 90, a 91, a 92, a 93, i 5700, i 5701)).2.2).2.1 from (by unfold cMend; simp only [if_pos bw184, if_pos bw185]; first | done | rfl | (simp only [sMn, sMx]; done) | (simp only [sMn, sMx]; rfl))), (show a 92 = ((cMend (i 64) x1 x2 x3 (a 2, a 3, a 4, a 5, i 70, i 71, i 72) (a 90, a 91, a 92, a 93, i 5700, i 5701)).2.2).2.2.1 from (by unfold cMend; simp only [if_pos bw184, if_pos bw185]; first | done | rfl | (simp only [sMn, sMx]; done) | (simp only [sMn, sMx]; rfl))), (show a 93 = ((cMend (i 64) x1 x2 x3 (a 2, a 3, a 4, a 5, i 70, i 71, i 72) (a 90, a 91, a 92, a 93, i 5700, i 5701)).2.2).2.2.2.1 from (by unfold cMend; simp only [if_pos bw184, if_pos bw185]; first | done | rfl | (simp only [sMn, sMx]; done) | (simp only [sMn, sMx]; rfl))), (show i 5700 = ((cMend (i 64) x1 x2 x3 (a 2, a 3, a 4, a 5, i 70, i 71, i 72) (a 90, a 91, a 92, a 93, i 5700, i 5701)).2.2).2.2.2.2.1 from (by unfold cMend; simp only [if_pos bw184, if_pos bw185]; first | done | rfl | (simp only [sMn, sMx]; done) | (simp only [sMn, sMx]; rfl))), (show i 5701 = ((cMend (i 64) x1 x2 x3 (a 2, a 3, a 4, a 5, i 70, i 71, i 72) (a 90, a 91, a 92, a 93, i 5700, i 5701)).2.2).2.2.2.2.2 from (by unfold cMend; simp only [if_pos bw184, if_pos bw185]; first | done | rfl | (simp only [sMn, sMx]; done) | (simp only [sMn, sMx]; rfl)))⟩⟩)
        ·
          have c186 : vg180.toInt ≠ x3.toInt := kd_eqF c; clear c
          refine fo_goS mi_k83 fz83_36_5_43 [.int x3, .int x2, .int x1, .ref 1] rfl ?_
          refine ko_callN mi_k83.1 (pc := 43) (ls := [(4, .int vg180), (0, .ref 0), (1, .int x1), (2, .int x2), (3, .int x3)]) (st := [.int x3, .int x2, .int x1, .ref 1]) (h := ks i a q r) (i := (.invokevirtual 102, 3, 28, 0, 9, 0, 167)) (mi_k83.2 _ _ (by rfl)) (ft_invS mi_pq28 (by rfl)) (cy := mi_c28) mi_pq28 rfl (ke28_1 hG.I hG.R x1 x2 x3) (by decide) ?_
          intro ig187 ag187 qg187 rg187 kg187 hg187
          have hGg187 := kG_call hG kg187 (by decide +kernel)
          obtain ⟨hg187, og187⟩ := hg187
          have q188 : ag187 2 = (cSet (i 64) x1 x2 x3 (a 2, a 3, a 4, a 5, i 70, i 71, i 72)).1 := og187.1
          have q189 : ag187 3 = (cSet (i 64) x1 x2 x3 (a 2, a 3, a 4, a 5, i 70, i 71, i 72)).2.1 := og187.2.1
          have q190 : ag187 4 = (cSet (i 64) x1 x2 x3 (a 2, a 3, a 4, a 5, i 70, i 71, i 72)).2.2.1 := og187.2.2.1
          have q191 : ag187 5 = (cSet (i 64) x1 x2 x3 (a 2, a 3, a 4, a 5, i 70, i 71, i 72)).2.2.2.1 := og187.2.2.2.1
          have q192 : ig187 70 = (cSet (i 64) x1 x2 x3 (a 2, a 3, a 4, a 5, i 70, i 71, i 72)).2.2.2.2.1 := og187.2.2.2.2.1
          have q193 : ig187 71 = (cSet (i 64) x1 x2 x3 (a 2, a 3, a 4, a 5, i 70, i 71, i 72)).2.2.2.2.2.1 := og187.2.2.2.2.2.1
          have q194 : ig187 72 = (cSet (i 64) x1 x2 x3 (a 2, a 3, a 4, a 5, i 70, i 71, i 72)).2.2.2.2.2.2 := og187.2.2.2.2.2.2
          refine fo_goS mi_k83 fz83_46_6_55 [.int x3, .int vg180, .int x2, .int x1, .ref 89] rfl ?_
          refine ko_callN mi_k83.1 (pc := 55) (ls := [(4, .int vg180), (0, .ref 0), (1, .int x1), (2, .int x2), (3, .int x3)]) (st := [.int x3, .int vg180, .int x2, .int x1, .ref 89]) (h := ks ig187 ag187 qg187 rg187) (i := (.invokevirtual 106, 3, 5, 0, 9, 0, 168)) (mi_k83.2 _ _ (by rfl)) (ft_invS mi_pq5 (by rfl)) (cy := mi_c5) mi_pq5 rfl (ke5_89 hGg187.I hGg187.R x1 x2 vg180 x3) (by decide) ?_
          intro ig195 ag195 qg195 rg195 kg195 hg195
          have hGg195 := kG_call hGg187 kg195 (by decide +kernel)
          obtain ⟨hg195, og195⟩ := hg195
          have q196 : ag195 90 = (nAdd x1 x2 vg180 x3 (ag187 90, ag187 91, ag187 92, ag187 93, ig187 5700, ig187 5701)).1 := og195.1
          have q197 : ag195 91 = (nAdd x1 x2 vg180 x3 (ag187 90, ag187 91, ag187 92, ag187 93, ig187 5700, ig187 5701)).2.1 := og195.2.1
          have q198 : ag195 92 = (nAdd x1 x2 vg180 x3 (ag187 90, ag187 91, ag187 92, ag187 93, ig187 5700, ig187 5701)).2.2.1 := og195.2.2.1
          have q199 : ag195 93 = (nAdd x1 x2 vg180 x3 (ag187 90, ag187 91, ag187 92, ag187 93, ig187 5700, ig187 5701)).2.2.2.1 := og195.2.2.2.1
          have q200 : ig195 5700 = (nAdd x1 x2 vg180 x3 (ag187 90, ag187 91, ag187 92, ag187 93, ig187 5700, ig187 5701)).2.2.2.2.1 := og195.2.2.2.2.1
          have q201 : ig195 5701 = (nAdd x1 x2 vg180 x3 (ag187 90, ag187 91, ag187 92, ag187 93, ig187 5700, ig187 5701)).2.2.2.2.2 := og195.2.2.2.2.2
          refine fo_goS mi_k83 fz83_58_1_60 [.int vg180] rfl ?_
          have bw202 : (kTold (i 64) x1 x2 ∧ kFit x2 x3) := ⟨(ou125 w177 z2), (kFit_6 (ou5 w177)).mpr (ou126 z179.1 z179.2)⟩
          have bw203 : ¬ ((cGet (i 64) x1 x2 (a 2, a 3, a 4, a 5, i 70, i 71, i 72)).toInt = x3.toInt) := (ou86 c186 u182)
          exact ft_ret mi_k83 (by rfl) (hP vg180 _ _ _ _ hGg195 ⟨trivial, ⟨(show vg180 = (cMend (i 64) x1 x2 x3 (a 2, a 3, a 4, a 5, i 70, i 71, i 72) (a 90, a 91, a 92, a 93, i 5700, i 5701)).1 from (by unfold cMend; simp only [if_pos bw202, if_neg bw203]; first | done | rfl | (simp only [q181, sMn, sMx]; done) | (simp only [q181, sMn, sMx]; rfl))), (show ag195 2 = ((cMend (i 64) x1 x2 x3 (a 2, a 3, a 4, a 5, i 70, i 71, i 72) (a 90, a 91, a 92, a 93, i 5700, i 5701)).2.1).1 from (by unfold cMend; simp only [if_pos bw202, if_neg bw203]; first | done | rfl | (simp only [kg195.fa 2 rfl, q188, sMn, sMx]; done) | (simp only [kg195.fa 2 rfl, q188, sMn, sMx]; rfl))), (show ag195 3 = ((cMend (i 64) x1 x2 x3 (a 2, a 3, a 4, a 5, i 70, i 71, i 72) (a 90, a 91, a 92, a 93, i 5700, i 5701)).2.1).2.1 from (by unfold cMend; simp only [if_pos bw202, if_neg bw203]; first | done | rfl | (simp only [kg195.fa 3 rfl, q189, sMn, sMx]; done) | (simp only [kg195.fa 3 rfl, q189, sMn, sMx]; rfl))), (show ag195 4 = ((cMend (i 64) x1 x2 x3 (a 2, a 3, a 4, a 5, i 70, i 71, i 72) (a 90, a 91, a 92, a 93, i 5700, i 5701)).2.1).2.2.1 from (by unfold cMend; simp only [if_pos bw202, if_neg bw203]; first | done | rfl | (simp only [kg195.fa 4 rfl, q190, sMn, sMx]; done) | (simp only [kg195.fa 4 rfl, q190, sMn, sMx]; rfl))), (show ag195 5 = ((cMend (i 64) x1 x2 x3 (a 2, a 3, a 4, a 5, i 70, i 71, i 72) (a 90, a 91, a 92, a 93, i 5700, i 5701)).2.1).2.2.2.1 from (by unfold cMend; simp only [if_pos bw202, if_neg bw203]; first | done | rfl | (simp only [kg195.fa 5 rfl, q191, sMn, sMx]; done) | (simp only [kg195.fa 5 rfl, q191, sMn, sMx]; rfl))), (show ig195 70 = ((cMend (i 64) x1 x2 x3 (a 2, a 3, a 4, a 5, i 70, i 71, i 72) (a 90, a 91, a 92, a 93, i 5700, i 5701)).2.1).2.2.2.2.1 from (by unfold cMend; simp only [if_pos bw202, if_neg bw203]; first | done | rfl | (simp only [(show ig195 70 = ig187 70 from kg195.fi 70 rfl), q192, sMn, sMx]; done) | (simp only [(show ig195 70 = ig187 70 from kg195.fi 70 rfl), q192, sMn, sMx]; rfl))), (show ig195 71 = ((cMend (i 64) x1 x2 x3 (a 2, a 3, a 4, a 5, i 70, i 71, i 72) (a 90, a 91, a 92, a 93, i 5700, i 5701)).2.1).2.2.2.2.2.1 from (by unfold cMend; simp only [if_pos bw202, if_neg bw203]; first | done | rfl | (simp only [(show ig195 71 = ig187 71 from kg195.fi 71 rfl), q193, sMn, sMx]; done) | (simp only [(show ig195 71 = ig187 71 from kg195.fi 71 rfl), q193, sMn, sMx]; rfl))), (show ig195 72 = ((cMend (i 64) x1 x2 x3 (a 2, a 3, a 4, a 5, i 70, i 71, i 72) (a 90, a 91, a 92, a 93, i 5700, i 5701)).2.1).2.2.2.2.2.2 from (by unfold cMend; simp only [if_pos bw202, if_neg bw203]; first | done | rfl | (simp only [(show ig195 72 = ig187 72 from kg195.fi 72 rfl), q194, sMn, sMx]; done) | (simp only [(show ig195 72 = ig187 72 from kg195.fi 72 rfl), q194, sMn, sMx]; rfl))), (show ag195 90 = ((cMend (i 64) x1 x2 x3 (a 2, a 3, a 4, a 5, i 70, i 71, i 72) (a 90, a 91, a 92, a 93, i 5700, i 5701)).2.2).1 from (by unfold cMend; simp only [if_pos bw202, if_neg bw203]; first | done | rfl | (simp only [q196, q181, kg187.fa 90 rfl, kg187.fa 91 rfl, kg187.fa 92 rfl, kg187.fa 93 rfl, (show ig187 5700 = i 5700 from kg187.fi 5700 rfl), (show ig187 5701 = i 5701 from kg187.fi 5701 rfl), sMn, sMx]; done) | (simp only [q196, q181, kg187.fa 90 rfl, kg187.fa 91 rfl, kg187.fa 92 rfl, kg187.fa 93 rfl, (show ig187 5700 = i 5700 from kg187.fi 5700 rfl), (show ig187 5701 = i 5701 from kg187.fi 5701 rfl), sMn, sMx]; rfl))), (show ag195 91 = ((cMend (i 64) x1 x2 x3 (a 2, a 3, a 4, a 5, i 70, i 71, i 72) (a 90, a 91, a 92, a 93, i 5700, i 5701)).2.2).2.1 from (by unfold cMend; simp only [if_pos bw202, if_neg bw203]; first | done | rfl | (simp only [q197, q181, kg187.fa 90 rfl, kg187.fa 91 rfl, kg187.fa 92 rfl, kg187.fa 93 rfl, (show ig187 5700 = i 5700 from kg187.fi 5700 rfl), (show ig187 5701 = i 5701 from kg187.fi 5701 rfl), sMn, sMx]; done) | (simp only [q197, q181, kg187.fa 90 rfl, kg187.fa 91 rfl, kg187.fa 92 rfl, kg187.fa 93 rfl, (show ig187 5700 = i 5700 from kg187.fi 5700 rfl), (show ig187 5701 = i 5701 from kg187.fi 5701 rfl), sMn, sMx]; rfl))), (show ag195 92 = ((cMend (i 64) x1 x2 x3 (a 2, a 3, a 4, a 5, i 70, i 71, i 72) (a 90, a 91, a 92, a 93, i 5700, i 5701)).2.2).2.2.1 from (by unfold cMend; simp only [if_pos bw202, if_neg bw203]; first | done | rfl | (simp only [q198, q181, kg187.fa 90 rfl, kg187.fa 91 rfl, kg187.fa 92 rfl, kg187.fa 93 rfl, (show ig187 5700 = i 5700 from kg187.fi 5700 rfl), (show ig187 5701 = i 5701 from kg187.fi 5701 rfl), sMn, sMx]; done) | (simp only [q198, q181, kg187.fa 90 rfl, kg187.fa 91 rfl, kg187.fa 92 rfl, kg187.fa 93 rfl, (show ig187 5700 = i 5700 from kg187.fi 5700 rfl), (show ig187 5701 = i 5701 from kg187.fi 5701 rfl), sMn, sMx]; rfl))), (show ag195 93 = ((cMend (i 64) x1 x2 x3 (a 2, a 3, a 4, a 5, i 70, i 71, i 72) (a 90, a 91, a 92, a 93, i 5700, i 5701)).2.2).2.2.2.1 from (by unfold cMend; simp only [if_pos bw202, if_neg bw203]; first | done | rfl | (simp only [q199, q181, kg187.fa 90 rfl, kg187.fa 91 rfl, kg187.fa 92 rfl, kg187.fa 93 rfl, (show ig187 5700 = i 5700 from kg187.fi 5700 rfl), (show ig187 5701 = i 5701 from kg187.fi 5701 rfl), sMn, sMx]; done) | (simp only [q199, q181, kg187.fa 90 rfl, kg187.fa 91 rfl, kg187.fa 92 rfl, kg187.fa 93 rfl, (show ig187 5700 = i 5700 from kg187.fi 5700 rfl), (show ig187 5701 = i 5701 from kg187.fi 5701 rfl), sMn, sMx]; rfl))), (show ig195 5700 = ((cMend (i 64) x1 x2 x3 (a 2, a 3, a 4, a 5, i 70, i 71, i 72) (a 90, a 91, a 92, a 93, i 5700, i 5701)).2.2).2.2.2.2.1 from (by unfold cMend; simp only [if_pos bw202, if_neg bw203]; first | done | rfl | (simp only [q200, q181, kg187.fa 90 rfl, kg187.fa 91 rfl, kg187.fa 92 rfl, kg187.fa 93 rfl, (show ig187 5700 = i 5700 from kg187.fi 5700 rfl), (show ig187 5701 = i 5701 from kg187.fi 5701 rfl), sMn, sMx]; done) | (simp only [q200, q181, kg187.fa 90 rfl, kg187.fa 91 rfl, kg187.fa 92 rfl, kg187.fa 93 rfl, (show ig187 5700 = i 5700 from kg187.fi 5700 rfl), (show ig187 5701 = i 5701 from kg187.fi 5701 rfl), sMn, sMx]; rfl))), (show ig195 5701 = ((cMend (i 64) x1 x2 x3 (a 2, a 3, a 4, a 5, i 70, i 71, i 72) (a 90, a 91, a 92, a 93, i 5700, i 5701)).2.2).2.2.2.2.2 from (by unfold cMend; simp only [if_pos bw202, if_neg bw203]; first | done | rfl | (simp only [q201, q181, kg187.fa 90 rfl, kg187.fa 91 rfl, kg187.fa 92 rfl, kg187.fa 93 rfl, (show ig187 5700 = i 5700 from kg187.fi 5700 rfl), (show ig187 5701 = i 5701 from kg187.fi 5701 rfl), sMn, sMx]; done) | (simp only [q201, q181, kg187.fa 90 rfl, kg187.fa 91 rfl, kg187.fa 92 rfl, kg187.fa 93 rfl, (show ig187 5700 = i 5700 from kg187.fi 5700 rfl), (show ig187 5701 = i 5701 from kg187.fi 5701 rfl), sMn, sMx]; rfl)))⟩⟩)
      ·
        subst eg178
        have z204 : ¬ (((0 : Int) ≤ x3.toInt) ∧ (x3.toInt ≤ 99)) := hg178
        first | refine fo_goS mi_k83 fz83_6_2_18 [.int (-1)] (by rfl) ?_ | refine fo_goS mi_k83 fz83_14_2_18 [.int (-1)] (by rfl) ?_
        have bw205 : ¬ (kTold (i 64) x1 x2 ∧ kFit x2 x3) := (fun z => absurd ((kFit_6 (ou5 w177)).mp z.2) (ou127 z204))
        exact ft_ret mi_k83 (by rfl) (hP (-1) _ _ _ _ hG ⟨trivial, ⟨(show ((-1) : Int32) = (cMend (i 64) x1 x2 x3 (a 2, a 3, a 4, a 5, i 70, i 71, i 72) (a 90, a 91, a 92, a 93, i 5700, i 5701)).1 from (by unfold cMend; simp only [if_neg bw205]; first | done | rfl | (simp only [sMn, sMx]; done) | (simp only [sMn, sMx]; rfl))), (show a 2 = ((cMend (i 64) x1 x2 x3 (a 2, a 3, a 4, a 5, i 70, i 71, i 72) (a 90, a 91, a 92, a 93, i 5700, i 5701)).2.1).1 from (by unfold cMend; simp only [if_neg bw205]; first | done | rfl | (simp only [sMn, sMx]; done) | (simp only [sMn, sMx]; rfl))), (show a 3 = ((cMend (i 64) x1 x2 x3 (a 2, a 3, a 4, a 5, i 70, i 71, i 72) (a 90, a 91, a 92, a 93, i 5700, i 5701)).2.1).2.1 from (by unfold cMend; simp only [if_neg bw205]; first | done | rfl | (simp only [sMn, sMx]; done) | (simp only [sMn, sMx]; rfl))), (show a 4 = ((cMend (i 64) x1 x2 x3 (a 2, a 3, a 4, a 5, i 70, i 71, i 72) (a 90, a 91, a 92, a 93, i 5700, i 5701)).2.1).2.2.1 from (by unfold cMend; simp only [if_neg bw205]; first | done | rfl | (simp only [sMn, sMx]; done) | (simp only [sMn, sMx]; rfl))), (show a 5 = ((cMend (i 64) x1 x2 x3 (a 2, a 3, a 4, a 5, i 70, i 71, i 72) (a 90, a 91, a 92, a 93, i 5700, i 5701)).2.1).2.2.2.1 from (by unfold cMend; simp only [if_neg bw205]; first | done | rfl | (simp only [sMn, sMx]; done) | (simp only [sMn, sMx]; rfl))), (show i 70 = ((cMend (i 64) x1 x2 x3 (a 2, a 3, a 4, a 5, i 70, i 71, i 72) (a 90, a 91, a 92, a 93, i 5700, i 5701)).2.1).2.2.2.2.1 from (by unfold cMend; simp only [if_neg bw205]; first | done | rfl | (simp only [sMn, sMx]; done) | (simp only [sMn, sMx]; rfl))), (show i 71 = ((cMend (i 64) x1 x2 x3 (a 2, a 3, a 4, a 5, i 70, i 71, i 72) (a 90, a 91, a 92, a 93, i 5700, i 5701)).2.1).2.2.2.2.2.1 from (by unfold cMend; simp only [if_neg bw205]; first | done | rfl | (simp only [sMn, sMx]; done) | (simp only [sMn, sMx]; rfl))), (show i 72 = ((cMend (i 64) x1 x2 x3 (a 2, a 3, a 4, a 5, i 70, i 71, i 72) (a 90, a 91, a 92, a 93, i 5700, i 5701)).2.1).2.2.2.2.2.2 from (by unfold cMend; simp only [if_neg bw205]; first | done | rfl | (simp only [sMn, sMx]; done) | (simp only [sMn, sMx]; rfl))), (show a 90 = ((cMend (i 64) x1 x2 x3 (a 2, a 3, a 4, a 5, i 70, i 71, i 72) (a 90, a 91, a 92, a 93, i 5700, i 5701)).2.2).1 from (by unfold cMend; simp only [if_neg bw205]; first | done | rfl | (simp only [sMn, sMx]; done) | (simp only [sMn, sMx]; rfl))), (show a 91 = ((cMend (i 64) x1 x2 x3 (a 2, a 3, a 4, a 5, i 70, i 71, i 72) (a 90, a 91, a 92, a 93, i 5700, i 5701)).2.2).2.1 from (by unfold cMend; simp only [if_neg bw205]; first | done | rfl | (simp only [sMn, sMx]; done) | (simp only [sMn, sMx]; rfl))), (show a 92 = ((cMend (i 64) x1 x2 x3 (a 2, a 3, a 4, a 5, i 70, i 71, i 72) (a 90, a 91, a 92, a 93, i 5700, i 5701)).2.2).2.2.1 from (by unfold cMend; simp only [if_neg bw205]; first | done | rfl | (simp only [sMn, sMx]; done) | (simp only [sMn, sMx]; rfl))), (show a 93 = ((cMend (i 64) x1 x2 x3 (a 2, a 3, a 4, a 5, i 70, i 71, i 72) (a 90, a 91, a 92, a 93, i 5700, i 5701)).2.2).2.2.2.1 from (by unfold cMend; simp only [if_neg bw205]; first | done | rfl | (simp only [sMn, sMx]; done) | (simp only [sMn, sMx]; rfl))), (show i 5700 = ((cMend (i 64) x1 x2 x3 (a 2, a 3, a 4, a 5, i 70, i 71, i 72) (a 90, a 91, a 92, a 93, i 5700, i 5701)).2.2).2.2.2.2.1 from (by unfold cMend; simp only [if_neg bw205]; first | done | rfl | (simp only [sMn, sMx]; done) | (simp only [sMn, sMx]; rfl))), (show i 5701 = ((cMend (i 64) x1 x2 x3 (a 2, a 3, a 4, a 5, i 70, i 71, i 72) (a 90, a 91, a 92, a 93, i 5700, i 5701)).2.2).2.2.2.2.2 from (by unfold cMend; simp only [if_neg bw205]; first | done | rfl | (simp only [sMn, sMx]; done) | (simp only [sMn, sMx]; rfl)))⟩⟩)
    exact (ou128 w119 w148 w177 w3 w32 w61 w90 z2).elim
  ·
    subst eg1
    have fi_64 : ((0 : Int) ≤ (i 64).toInt) ∧ ((i 64).toInt ≤ 8) := hG.I.1 64
    have z206 : ¬ ((((0 : Int) ≤ x2.toInt) ∧ (x2.toInt ≤ 3) ∧ ((0 : Int) ≤ x1.toInt) ∧ (x1.toInt < (i 64).toInt)) ∨ (((4 : Int) ≤ x2.toInt) ∧ (x2.toInt ≤ 6) ∧ (x1.toInt = 0))) := hg1
    first | refine fo_goS mi_k83 fz83_6_2_18 [.int (-1)] (by rfl) ?_ | refine fo_goS mi_k83 fz83_14_2_18 [.int (-1)] (by rfl) ?_
    have bw207 : ¬ (kTold (i 64) x1 x2 ∧ kFit x2 x3) := (fun z => absurd z.1 (ou75 fi_64.1 z206))
    exact ft_ret mi_k83 (by rfl) (hP (-1) _ _ _ _ hG ⟨trivial, ⟨(show ((-1) : Int32) = (cMend (i 64) x1 x2 x3 (a 2, a 3, a 4, a 5, i 70, i 71, i 72) (a 90, a 91, a 92, a 93, i 5700, i 5701)).1 from (by unfold cMend; simp only [if_neg bw207]; first | done | rfl | (simp only [sMn, sMx]; done) | (simp only [sMn, sMx]; rfl))), (show a 2 = ((cMend (i 64) x1 x2 x3 (a 2, a 3, a 4, a 5, i 70, i 71, i 72) (a 90, a 91, a 92, a 93, i 5700, i 5701)).2.1).1 from (by unfold cMend; simp only [if_neg bw207]; first | done | rfl | (simp only [sMn, sMx]; done) | (simp only [sMn, sMx]; rfl))), (show a 3 = ((cMend (i 64) x1 x2 x3 (a 2, a 3, a 4, a 5, i 70, i 71, i 72) (a 90, a 91, a 92, a 93, i 5700, i 5701)).2.1).2.1 from (by unfold cMend; simp only [if_neg bw207]; first | done | rfl | (simp only [sMn, sMx]; done) | (simp only [sMn, sMx]; rfl))), (show a 4 = ((cMend (i 64) x1 x2 x3 (a 2, a 3, a 4, a 5, i 70, i 71, i 72) (a 90, a 91, a 92, a 93, i 5700, i 5701)).2.1).2.2.1 from (by unfold cMend; simp only [if_neg bw207]; first | done | rfl | (simp only [sMn, sMx]; done) | (simp only [sMn, sMx]; rfl))), (show a 5 = ((cMend (i 64) x1 x2 x3 (a 2, a 3, a 4, a 5, i 70, i 71, i 72) (a 90, a 91, a 92, a 93, i 5700, i 5701)).2.1).2.2.2.1 from (by unfold cMend; simp only [if_neg bw207]; first | done | rfl | (simp only [sMn, sMx]; done) | (simp only [sMn, sMx]; rfl))), (show i 70 = ((cMend (i 64) x1 x2 x3 (a 2, a 3, a 4, a 5, i 70, i 71, i 72) (a 90, a 91, a 92, a 93, i 5700, i 5701)).2.1).2.2.2.2.1 from (by unfold cMend; simp only [if_neg bw207]; first | done | rfl | (simp only [sMn, sMx]; done) | (simp only [sMn, sMx]; rfl))), (show i 71 = ((cMend (i 64) x1 x2 x3 (a 2, a 3, a 4, a 5, i 70, i 71, i 72) (a 90, a 91, a 92, a 93, i 5700, i 5701)).2.1).2.2.2.2.2.1 from (by unfold cMend; simp only [if_neg bw207]; first | done | rfl | (simp only [sMn, sMx]; done) | (simp only [sMn, sMx]; rfl))), (show i 72 = ((cMend (i 64) x1 x2 x3 (a 2, a 3, a 4, a 5, i 70, i 71, i 72) (a 90, a 91, a 92, a 93, i 5700, i 5701)).2.1).2.2.2.2.2.2 from (by unfold cMend; simp only [if_neg bw207]; first | done | rfl | (simp only [sMn, sMx]; done) | (simp only [sMn, sMx]; rfl))), (show a 90 = ((cMend (i 64) x1 x2 x3 (a 2, a 3, a 4, a 5, i 70, i 71, i 72) (a 90, a 91, a 92, a 93, i 5700, i 5701)).2.2).1 from (by unfold cMend; simp only [if_neg bw207]; first | done | rfl | (simp only [sMn, sMx]; done) | (simp only [sMn, sMx]; rfl))), (show a 91 = ((cMend (i 64) x1 x2 x3 (a 2, a 3, a 4, a 5, i 70, i 71, i 72) (a 90, a 91, a 92, a 93, i 5700, i 5701)).2.2).2.1 from (by unfold cMend; simp only [if_neg bw207]; first | done | rfl | (simp only [sMn, sMx]; done) | (simp only [sMn, sMx]; rfl))), (show a 92 = ((cMend (i 64) x1 x2 x3 (a 2, a 3, a 4, a 5, i 70, i 71, i 72) (a 90, a 91, a 92, a 93, i 5700, i 5701)).2.2).2.2.1 from (by unfold cMend; simp only [if_neg bw207]; first | done | rfl | (simp only [sMn, sMx]; done) | (simp only [sMn, sMx]; rfl))), (show a 93 = ((cMend (i 64) x1 x2 x3 (a 2, a 3, a 4, a 5, i 70, i 71, i 72) (a 90, a 91, a 92, a 93, i 5700, i 5701)).2.2).2.2.2.1 from (by unfold cMend; simp only [if_neg bw207]; first | done | rfl | (simp only [sMn, sMx]; done) | (simp only [sMn, sMx]; rfl))), (show i 5700 = ((cMend (i 64) x1 x2 x3 (a 2, a 3, a 4, a 5, i 70, i 71, i 72) (a 90, a 91, a 92, a 93, i 5700, i 5701)).2.2).2.2.2.2.1 from (by unfold cMend; simp only [if_neg bw207]; first | done | rfl | (simp only [sMn, sMx]; done) | (simp only [sMn, sMx]; rfl))), (show i 5701 = ((cMend (i 64) x1 x2 x3 (a 2, a 3, a 4, a 5, i 70, i 71, i 72) (a 90, a 91, a 92, a 93, i 5700, i 5701)).2.2).2.2.2.2.2 from (by unfold cMend; simp only [if_neg bw207]; first | done | rfl | (simp only [sMn, sMx]; done) | (simp only [sMn, sMx]; rfl)))⟩⟩)
noncomputable def yw108_0 : kW := ([70, 71, 72, 5701], [2, 3, 4, 5], [], [])
set_option maxRecDepth 100000 in
theorem ke108_0 {i : Nat → Int32} {a : Nat → List Int32} {q : Nat → List Int64} {r : Nat → Nat} (hI : kI i a q) (hr : kr r)  : km 5 108 [.ref 0] (ks i a q r) (kVI yw108_0 i a q r (fun v i1 a1 q1 r1 => (True) ∧ (v = (cUndo (i 64) (a 2, a 3, a 4, a 5, i 70, i 71, i 72) (a 90, a 91, a 92, a 93, i 5700, i 5701)).1 ∧ a1 2 = ((cUndo (i 64) (a 2, a 3, a 4, a 5, i 70, i 71, i 72) (a 90, a 91, a 92, a 93, i 5700, i 5701)).2.1).1 ∧ a1 3 = ((cUndo (i 64) (a 2, a 3, a 4, a 5, i 70, i 71, i 72) (a 90, a 91, a 92, a 93, i 5700, i 5701)).2.1).2.1 ∧ a1 4 = ((cUndo (i 64) (a 2, a 3, a 4, a 5, i 70, i 71, i 72) (a 90, a 91, a 92, a 93, i 5700, i 5701)).2.1).2.2.1 ∧ a1 5 = ((cUndo (i 64) (a 2, a 3, a 4, a 5, i 70, i 71, i 72) (a 90, a 91, a 92, a 93, i 5700, i 5701)).2.1).2.2.2.1 ∧ i1 70 = ((cUndo (i 64) (a 2, a 3, a 4, a 5, i 70, i 71, i 72) (a 90, a 91, a 92, a 93, i 5700, i 5701)).2.1).2.2.2.2.1 ∧ i1 71 = ((cUndo (i 64) (a 2, a 3, a 4, a 5, i 70, i 71, i 72) (a 90, a 91, a 92, a 93, i 5700, i 5701)).2.1).2.2.2.2.2.1 ∧ i1 72 = ((cUndo (i 64) (a 2, a 3, a 4, a 5, i 70, i 71, i 72) (a 90, a 91, a 92, a 93, i 5700, i 5701)).2.1).2.2.2.2.2.2 ∧ a1 90 = ((cUndo (i 64) (a 2, a 3, a 4, a 5, i 70, i 71, i 72) (a 90, a 91, a 92, a 93, i 5700, i 5701)).2.2).1 ∧ a1 91 = ((cUndo (i 64) (a 2, a 3, a 4, a 5, i 70, i 71, i 72) (a 90, a 91, a 92, a 93, i 5700, i 5701)).2.2).2.1 ∧ a1 92 = ((cUndo (i 64) (a 2, a 3, a 4, a 5, i 70, i 71, i 72) (a 90, a 91, a 92, a 93, i 5700, i 5701)).2.2).2.2.1 ∧ a1 93 = ((cUndo (i 64) (a 2, a 3, a 4, a 5, i 70, i 71, i 72) (a 90, a 91, a 92, a 93, i 5700, i 5701)).2.2).2.2.2.1 ∧ i1 5700 = ((cUndo (i 64) (a 2, a 3, a 4, a 5, i 70, i 71, i 72) (a 90, a 91, a 92, a 93, i 5700, i 5701)).2.2).2.2.2.2.1 ∧ i1 5701 = ((cUndo (i 64) (a 2, a 3, a 4, a 5, i 70, i 71, i 72) (a 90, a 91, a 92, a 93, i 5700, i 5701)).2.2).2.2.2.2.2))) := by
  have hG := kG_self yw108_0 hI hr
  refine km_ofI (q := (mi_h108, mi_c108)) rfl (by decide) (Nat.le_of_ble_eq_true rfl) ?_
  intro P hP
  have fi_5701 : ((0 : Int) ≤ (i 5701).toInt) ∧ ((i 5701).toInt ≤ 40) := hG.I.1 5701
  refine ft_goL mi_k108 3 7 [(0, .ref 0)] [.int (i 5701)] (by rfl) ?_
  refine ft_ifS mi_k108 (decide (0 < (i 5701))) 13 10 [] (by rfl) (fun c => ?_) (fun c => ?_)
  ·
    have c1 : (0 : Int32).toInt < (i 5701).toInt := kd_lt c; clear c
    have s2 : ((i 5701) - 1).toInt = (i 5701).toInt - (1 : Int32).toInt := kd_sub (ou129 c1 kou0 kou1) (ou130 fi_5701.2 kou1)
    have hJ3 := kG_i hG 5701 rfl (v := ((i 5701) - 1)) ⟨(ou131 c1 s2 kou0 kou1), (ou132 fi_5701.2 s2 kou1)⟩
    first | refine fo_go mi_k108 fz108_13_17_46 [(1, .int ((i 5701) - 1)), (0, .ref 0)] [.int ((i 5701) - 1), .ref 90, .ref 1] (ku i 5701 ((i 5701) - 1)) a q r (by rfl) ?_ | refine ft_go mi_k108 17 46 [(1, .int ((i 5701) - 1)), (0, .ref 0)] [.int ((i 5701) - 1), .ref 90, .ref 1] (ku i 5701 ((i 5701) - 1)) a q r (by rfl) ?_
    refine ko_iald3 mi_k108.1 (n := 40) (c := 40) (ax := (0, 0, 0, 0, 0)) (mi_k108.2 _ _ (by rfl)) (by rfl) (ksG90 _ _ _ _) (hJ3.I.2.1 90) rfl (ou131 c1 s2 kou0 kou1) (ou133 fi_5701.2 s2 kou1) ?_
    refine ft_goS mi_k108 4 55 [.int ((i 5701) - 1), .ref 91, .int ((a 90).getD ((i 5701) - 1).toNatClampNeg 0), .ref 1] (by rfl) ?_
    refine ko_iald3 mi_k108.1 (n := 40) (c := 40) (ax := (0, 0, 0, 0, 0)) (mi_k108.2 _ _ (by rfl)) (by rfl) (ksG91 _ _ _ _) (hJ3.I.2.1 91) rfl (ou131 c1 s2 kou0 kou1) (ou133 fi_5701.2 s2 kou1) ?_
    refine ft_goS mi_k108 4 64 [.int ((i 5701) - 1), .ref 92, .int ((a 91).getD ((i 5701) - 1).toNatClampNeg 0), .int ((a 90).getD ((i 5701) - 1).toNatClampNeg 0), .ref 1] (by rfl) ?_
    refine ko_iald3 mi_k108.1 (n := 40) (c := 40) (ax := (0, 0, 0, 0, 0)) (mi_k108.2 _ _ (by rfl)) (by rfl) (ksG92 _ _ _ _) (hJ3.I.2.1 92) rfl (ou131 c1 s2 kou0 kou1) (ou133 fi_5701.2 s2 kou1) ?_
    refine ko_callN mi_k108.1 (pc := 65) (ls := [(1, .int ((i 5701) - 1)), (0, .ref 0)]) (st := [.int ((a 92).getD ((i 5701) - 1).toNatClampNeg 0), .int ((a 91).getD ((i 5701) - 1).toNatClampNeg 0), .int ((a 90).getD ((i 5701) - 1).toNatClampNeg 0), .ref 1]) (h := ks (ku i 5701 ((i 5701) - 1)) a q r) (i := (.invokevirtual 102, 3, 28, 0, 9, 0, 167)) (mi_k108.2 _ _ (by rfl)) (ft_invS mi_pq28 (by rfl)) (cy := mi_c28) mi_pq28 rfl (ke28_1 hJ3.I hJ3.R ((a 90).getD ((i 5701) - 1).toNatClampNeg 0) ((a 91).getD ((i 5701) - 1).toNatClampNeg 0) ((a 92).getD ((i 5701) - 1).toNatClampNeg 0)) (by decide) ?_
    intro ig4 ag4 qg4 rg4 kg4 hg4
    have hGg4 := kG_call hJ3 kg4 (by decide +kernel)
    obtain ⟨hg4, og4⟩ := hg4
    have q5 : ag4 2 = (cSet (i 64) ((a 90).getD ((i 5701) - 1).toNatClampNeg 0) ((a 91).getD ((i 5701) - 1).toNatClampNeg 0) ((a 92).getD ((i 5701) - 1).toNatClampNeg 0) (a 2, a 3, a 4, a 5, i 70, i 71, i 72)).1 := og4.1
    have q6 : ag4 3 = (cSet (i 64) ((a 90).getD ((i 5701) - 1).toNatClampNeg 0) ((a 91).getD ((i 5701) - 1).toNatClampNeg 0) ((a 92).getD ((i 5701) - 1).toNatClampNeg 0) (a 2, a 3, a 4, a 5, i 70, i 71, i 72)).2.1 := og4.2.1
    have q7 : ag4 4 = (cSet (i 64) ((a 90).getD ((i 5701) - 1).toNatClampNeg 0) ((a 91).getD ((i 5701) - 1).toNatClampNeg 0) ((a 92).getD ((i 5701) - 1).toNatClampNeg 0) (a 2, a 3, a 4, a 5, i 70, i 71, i 72)).2.2.1 := og4.2.2.1
    have q8 : ag4 5 = (cSet (i 64) ((a 90).getD ((i 5701) - 1).toNatClampNeg 0) ((a 91).getD ((i 5701) - 1).toNatClampNeg 0) ((a 92).getD ((i 5701) - 1).toNatClampNeg 0) (a 2, a 3, a 4, a 5, i 70, i 71, i 72)).2.2.2.1 := og4.2.2.2.1
    have q9 : ig4 70 = (cSet (i 64) ((a 90).getD ((i 5701) - 1).toNatClampNeg 0) ((a 91).getD ((i 5701) - 1).toNatClampNeg 0) ((a 92).getD ((i 5701) - 1).toNatClampNeg 0) (a 2, a 3, a 4, a 5, i 70, i 71, i 72)).2.2.2.2.1 := og4.2.2.2.2.1
    have q10 : ig4 71 = (cSet (i 64) ((a 90).getD ((i 5701) - 1).toNatClampNeg 0) ((a 91).getD ((i 5701) - 1).toNatClampNeg 0) ((a 92).getD ((i 5701) - 1).toNatClampNeg 0) (a 2, a 3, a 4, a 5, i 70, i 71, i 72)).2.2.2.2.2.1 := og4.2.2.2.2.2.1
    have q11 : ig4 72 = (cSet (i 64) ((a 90).getD ((i 5701) - 1).toNatClampNeg 0) ((a 91).getD ((i 5701) - 1).toNatClampNeg 0) ((a 92).getD ((i 5701) - 1).toNatClampNeg 0) (a 2, a 3, a 4, a 5, i 70, i 71, i 72)).2.2.2.2.2.2 := og4.2.2.2.2.2.2
    refine ft_goS mi_k108 3 75 [.int (ig4 5701)] (by rfl) ?_
    have bw12 : ¬ ((i 5701).toInt ≤ 0) := (ou134 c1 kou0)
    exact ft_ret mi_k108 (by rfl) (hP (ig4 5701) _ _ _ _ hGg4 ⟨trivial, ⟨(show (ig4 5701) = (cUndo (i 64) (a 2, a 3, a 4, a 5, i 70, i 71, i 72) (a 90, a 91, a 92, a 93, i 5700, i 5701)).1 from (by unfold cUndo; simp only [if_neg bw12]; first | done | rfl | (simp only [(show ig4 5701 = ((i 5701) - 1) from kg4.fi 5701 rfl), sMn, sMx]; done) | (simp only [(show ig4 5701 = ((i 5701) - 1) from kg4.fi 5701 rfl), sMn, sMx]; rfl))), (show ag4 2 = ((cUndo (i 64) (a 2, a 3, a 4, a 5, i 70, i 71, i 72) (a 90, a 91, a 92, a 93, i 5700, i 5701)).2.1).1 from (by unfold cUndo; simp only [if_neg bw12]; first | done | rfl | (simp only [q5, sMn, sMx]; done) | (simp only [q5, sMn, sMx]; rfl))), (show ag4 3 = ((cUndo (i 64) (a 2, a 3, a 4, a 5, i 70, i 71, i 72) (a 90, a 91, a 92, a 93, i 5700, i 5701)).2.1).2.1 from (by unfold cUndo; simp only [if_neg bw12]; first | done | rfl | (simp only [q6, sMn, sMx]; done) | (simp only [q6, sMn, sMx]; rfl))), (show ag4 4 = ((cUndo (i 64) (a 2, a 3, a 4, a 5, i 70, i 71, i 72) (a 90, a 91, a 92, a 93, i 5700, i 5701)).2.1).2.2.1 from (by unfold cUndo; simp only [if_neg bw12]; first | done | rfl | (simp only [q7, sMn, sMx]; done) | (simp only [q7, sMn, sMx]; rfl))), (show ag4 5 = ((cUndo (i 64) (a 2, a 3, a 4, a 5, i 70, i 71, i 72) (a 90, a 91, a 92, a 93, i 5700, i 5701)).2.1).2.2.2.1 from (by unfold cUndo; simp only [if_neg bw12]; first | done | rfl | (simp only [q8, sMn, sMx]; done) | (simp only [q8, sMn, sMx]; rfl))), (show ig4 70 = ((cUndo (i 64) (a 2, a 3, a 4, a 5, i 70, i 71, i 72) (a 90, a 91, a 92, a 93, i 5700, i 5701)).2.1).2.2.2.2.1 from (by unfold cUndo; simp only [if_neg bw12]; first | done | rfl | (simp only [q9, sMn, sMx]; done) | (simp only [q9, sMn, sMx]; rfl))), (show ig4 71 = ((cUndo (i 64) (a 2, a 3, a 4, a 5, i 70, i 71, i 72) (a 90, a 91, a 92, a 93, i 5700, i 5701)).2.1).2.2.2.2.2.1 from (by unfold cUndo; simp only [if_neg bw12]; first | done | rfl | (simp only [q10, sMn, sMx]; done) | (simp only [q10, sMn, sMx]; rfl))), (show ig4 72 = ((cUndo (i 64) (a 2, a 3, a 4, a 5, i 70, i 71, i 72) (a 90, a 91, a 92, a 93, i 5700, i 5701)).2.1).2.2.2.2.2.2 from (by unfold cUndo; simp only [if_neg bw12]; first | done | rfl | (simp only [q11, sMn, sMx]; done) | (simp only [q11, sMn, sMx]; rfl))), (show ag4 90 = ((cUndo (i 64) (a 2, a 3, a 4, a 5, i 70, i 71, i 72) (a 90, a 91, a 92, a 93, i 5700, i 5701)).2.2).1 from (by unfold cUndo; simp only [if_neg bw12]; first | done | rfl | (simp only [kg4.fa 90 rfl, sMn, sMx]; done) | (simp only [kg4.fa 90 rfl, sMn, sMx]; rfl))), (show ag4 91 = ((cUndo (i 64) (a 2, a 3, a 4, a 5, i 70, i 71, i 72) (a 90, a 91, a 92, a 93, i 5700, i 5701)).2.2).2.1 from (by unfold cUndo; simp only [if_neg bw12]; first | done | rfl | (simp only [kg4.fa 91 rfl, sMn, sMx]; done) | (simp only [kg4.fa 91 rfl, sMn, sMx]; rfl))), (show ag4 92 = ((cUndo (i 64) (a 2, a 3, a 4, a 5, i 70, i 71, i 72) (a 90, a 91, a 92, a 93, i 5700, i 5701)).2.2).2.2.1 from (by unfold cUndo; simp only [if_neg bw12]; first | done | rfl | (simp only [kg4.fa 92 rfl, sMn, sMx]; done) | (simp only [kg4.fa 92 rfl, sMn, sMx]; rfl))), (show ag4 93 = ((cUndo (i 64) (a 2, a 3, a 4, a 5, i 70, i 71, i 72) (a 90, a 91, a 92, a 93, i 5700, i 5701)).2.2).2.2.2.1 from (by unfold cUndo; simp only [if_neg bw12]; first | done | rfl | (simp only [kg4.fa 93 rfl, sMn, sMx]; done) | (simp only [kg4.fa 93 rfl, sMn, sMx]; rfl))), (show ig4 5700 = ((cUndo (i 64) (a 2, a 3, a 4, a 5, i 70, i 71, i 72) (a 90, a 91, a 92, a 93, i 5700, i 5701)).2.2).2.2.2.2.1 from (by unfold cUndo; simp only [if_neg bw12]; first | done | rfl | (simp only [(show ig4 5700 = i 5700 from kg4.fi 5700 rfl), sMn, sMx]; done) | (simp only [(show ig4 5700 = i 5700 from kg4.fi 5700 rfl), sMn, sMx]; rfl))), (show ig4 5701 = ((cUndo (i 64) (a 2, a 3, a 4, a 5, i 70, i 71, i 72) (a 90, a 91, a 92, a 93, i 5700, i 5701)).2.2).2.2.2.2.2 from (by unfold cUndo; simp only [if_neg bw12]; first | done | rfl | (simp only [(show ig4 5701 = ((i 5701) - 1) from kg4.fi 5701 rfl), sMn, sMx]; done) | (simp only [(show ig4 5701 = ((i 5701) - 1) from kg4.fi 5701 rfl), sMn, sMx]; rfl)))⟩⟩)
  ·
    have c13 : (i 5701).toInt ≤ (0 : Int32).toInt := kd_ltF c; clear c
    refine ft_goS mi_k108 1 12 [.int (-5)] (by rfl) ?_
    have bw14 : (i 5701).toInt ≤ 0 := (ou135 c13 kou0)
    exact ft_ret mi_k108 (by rfl) (hP (-5) _ _ _ _ hG ⟨trivial, ⟨(show ((-5) : Int32) = (cUndo (i 64) (a 2, a 3, a 4, a 5, i 70, i 71, i 72) (a 90, a 91, a 92, a 93, i 5700, i 5701)).1 from (by unfold cUndo; simp only [if_pos bw14]; first | done | rfl | (simp only [sMn, sMx]; done) | (simp only [sMn, sMx]; rfl))), (show a 2 = ((cUndo (i 64) (a 2, a 3, a 4, a 5, i 70, i 71, i 72) (a 90, a 91, a 92, a 93, i 5700, i 5701)).2.1).1 from (by unfold cUndo; simp only [if_pos bw14]; first | done | rfl | (simp only [sMn, sMx]; done) | (simp only [sMn, sMx]; rfl))), (show a 3 = ((cUndo (i 64) (a 2, a 3, a 4, a 5, i 70, i 71, i 72) (a 90, a 91, a 92, a 93, i 5700, i 5701)).2.1).2.1 from (by unfold cUndo; simp only [if_pos bw14]; first | done | rfl | (simp only [sMn, sMx]; done) | (simp only [sMn, sMx]; rfl))), (show a 4 = ((cUndo (i 64) (a 2, a 3, a 4, a 5, i 70, i 71, i 72) (a 90, a 91, a 92, a 93, i 5700, i 5701)).2.1).2.2.1 from (by unfold cUndo; simp only [if_pos bw14]; first | done | rfl | (simp only [sMn, sMx]; done) | (simp only [sMn, sMx]; rfl))), (show a 5 = ((cUndo (i 64) (a 2, a 3, a 4, a 5, i 70, i 71, i 72) (a 90, a 91, a 92, a 93, i 5700, i 5701)).2.1).2.2.2.1 from (by unfold cUndo; simp only [if_pos bw14]; first | done | rfl | (simp only [sMn, sMx]; done) | (simp only [sMn, sMx]; rfl))), (show i 70 = ((cUndo (i 64) (a 2, a 3, a 4, a 5, i 70, i 71, i 72) (a 90, a 91, a 92, a 93, i 5700, i 5701)).2.1).2.2.2.2.1 from (by unfold cUndo; simp only [if_pos bw14]; first | done | rfl | (simp only [sMn, sMx]; done) | (simp only [sMn, sMx]; rfl))), (show i 71 = ((cUndo (i 64) (a 2, a 3, a 4, a 5, i 70, i 71, i 72) (a 90, a 91, a 92, a 93, i 5700, i 5701)).2.1).2.2.2.2.2.1 from (by unfold cUndo; simp only [if_pos bw14]; first | done | rfl | (simp only [sMn, sMx]; done) | (simp only [sMn, sMx]; rfl))), (show i 72 = ((cUndo (i 64) (a 2, a 3, a 4, a 5, i 70, i 71, i 72) (a 90, a 91, a 92, a 93, i 5700, i 5701)).2.1).2.2.2.2.2.2 from (by unfold cUndo; simp only [if_pos bw14]; first | done | rfl | (simp only [sMn, sMx]; done) | (simp only [sMn, sMx]; rfl))), (show a 90 = ((cUndo (i 64) (a 2, a 3, a 4, a 5, i 70, i 71, i 72) (a 90, a 91, a 92, a 93, i 5700, i 5701)).2.2).1 from (by unfold cUndo; simp only [if_pos bw14]; first | done | rfl | (simp only [sMn, sMx]; done) | (simp only [sMn, sMx]; rfl))), (show a 91 = ((cUndo (i 64) (a 2, a 3, a 4, a 5, i 70, i 71, i 72) (a 90, a 91, a 92, a 93, i 5700, i 5701)).2.2).2.1 from (by unfold cUndo; simp only [if_pos bw14]; first | done | rfl | (simp only [sMn, sMx]; done) | (simp only [sMn, sMx]; rfl))), (show a 92 = ((cUndo (i 64) (a 2, a 3, a 4, a 5, i 70, i 71, i 72) (a 90, a 91, a 92, a 93, i 5700, i 5701)).2.2).2.2.1 from (by unfold cUndo; simp only [if_pos bw14]; first | done | rfl | (simp only [sMn, sMx]; done) | (simp only [sMn, sMx]; rfl))), (show a 93 = ((cUndo (i 64) (a 2, a 3, a 4, a 5, i 70, i 71, i 72) (a 90, a 91, a 92, a 93, i 5700, i 5701)).2.2).2.2.2.1 from (by unfold cUndo; simp only [if_pos bw14]; first | done | rfl | (simp only [sMn, sMx]; done) | (simp only [sMn, sMx]; rfl))), (show i 5700 = ((cUndo (i 64) (a 2, a 3, a 4, a 5, i 70, i 71, i 72) (a 90, a 91, a 92, a 93, i 5700, i 5701)).2.2).2.2.2.2.1 from (by unfold cUndo; simp only [if_pos bw14]; first | done | rfl | (simp only [sMn, sMx]; done) | (simp only [sMn, sMx]; rfl))), (show i 5701 = ((cUndo (i 64) (a 2, a 3, a 4, a 5, i 70, i 71, i 72) (a 90, a 91, a 92, a 93, i 5700, i 5701)).2.2).2.2.2.2.2 from (by unfold cUndo; simp only [if_pos bw14]; first | done | rfl | (simp only [sMn, sMx]; done) | (simp only [sMn, sMx]; rfl)))⟩⟩)
noncomputable def yw109_0 : kW := ([70, 71, 72, 5701], [2, 3, 4, 5], [], [])
set_option maxRecDepth 100000 in
theorem ke109_0 {i : Nat → Int32} {a : Nat → List Int32} {q : Nat → List Int64} {r : Nat → Nat} (hI : kI i a q) (hr : kr r)  : km 5 109 [.ref 0] (ks i a q r) (kVI yw109_0 i a q r (fun v i1 a1 q1 r1 => (True) ∧ (v = (cRedo (i 64) (a 2, a 3, a 4, a 5, i 70, i 71, i 72) (a 90, a 91, a 92, a 93, i 5700, i 5701)).1 ∧ a1 2 = ((cRedo (i 64) (a 2, a 3, a 4, a 5, i 70, i 71, i 72) (a 90, a 91, a 92, a 93, i 5700, i 5701)).2.1).1 ∧ a1 3 = ((cRedo (i 64) (a 2, a 3, a 4, a 5, i 70, i 71, i 72) (a 90, a 91, a 92, a 93, i 5700, i 5701)).2.1).2.1 ∧ a1 4 = ((cRedo (i 64) (a 2, a 3, a 4, a 5, i 70, i 71, i 72) (a 90, a 91, a 92, a 93, i 5700, i 5701)).2.1).2.2.1 ∧ a1 5 = ((cRedo (i 64) (a 2, a 3, a 4, a 5, i 70, i 71, i 72) (a 90, a 91, a 92, a 93, i 5700, i 5701)).2.1).2.2.2.1 ∧ i1 70 = ((cRedo (i 64) (a 2, a 3, a 4, a 5, i 70, i 71, i 72) (a 90, a 91, a 92, a 93, i 5700, i 5701)).2.1).2.2.2.2.1 ∧ i1 71 = ((cRedo (i 64) (a 2, a 3, a 4, a 5, i 70, i 71, i 72) (a 90, a 91, a 92, a 93, i 5700, i 5701)).2.1).2.2.2.2.2.1 ∧ i1 72 = ((cRedo (i 64) (a 2, a 3, a 4, a 5, i 70, i 71, i 72) (a 90, a 91, a 92, a 93, i 5700, i 5701)).2.1).2.2.2.2.2.2 ∧ a1 90 = ((cRedo (i 64) (a 2, a 3, a 4, a 5, i 70, i 71, i 72) (a 90, a 91, a 92, a 93, i 5700, i 5701)).2.2).1 ∧ a1 91 = ((cRedo (i 64) (a 2, a 3, a 4, a 5, i 70, i 71, i 72) (a 90, a 91, a 92, a 93, i 5700, i 5701)).2.2).2.1 ∧ a1 92 = ((cRedo (i 64) (a 2, a 3, a 4, a 5, i 70, i 71, i 72) (a 90, a 91, a 92, a 93, i 5700, i 5701)).2.2).2.2.1 ∧ a1 93 = ((cRedo (i 64) (a 2, a 3, a 4, a 5, i 70, i 71, i 72) (a 90, a 91, a 92, a 93, i 5700, i 5701)).2.2).2.2.2.1 ∧ i1 5700 = ((cRedo (i 64) (a 2, a 3, a 4, a 5, i 70, i 71, i 72) (a 90, a 91, a 92, a 93, i 5700, i 5701)).2.2).2.2.2.2.1 ∧ i1 5701 = ((cRedo (i 64) (a 2, a 3, a 4, a 5, i 70, i 71, i 72) (a 90, a 91, a 92, a 93, i 5700, i 5701)).2.2).2.2.2.2.2))) := by
  have hG := kG_self yw109_0 hI hr
  refine km_ofI (q := (mi_h109, mi_c109)) rfl (by decide) (Nat.le_of_ble_eq_true rfl) ?_
  intro P hP
  have fi_5701 : ((0 : Int) ≤ (i 5701).toInt) ∧ ((i 5701).toInt ≤ 40) := hG.I.1 5701
  have fi_5700 : ((0 : Int) ≤ (i 5700).toInt) ∧ ((i 5700).toInt ≤ 40) := hG.I.1 5700
  refine fo_goL mi_k109 fz109_0_6_14 [(0, .ref 0)] [.int (i 5700), .int (i 5701)] rfl ?_
  refine ft_ifS mi_k109 (decide ((i 5701) < (i 5700))) 20 17 [] (by rfl) (fun c => ?_) (fun c => ?_)
  ·
    have c1 : (i 5701).toInt < (i 5700).toInt := kd_lt c; clear c
    refine fo_goL mi_k109 fz109_20_10_40 [(1, .int (i 5701)), (0, .ref 0)] [.int (i 5701), .ref 90, .ref 1] rfl ?_
    refine ko_iald3 mi_k109.1 (n := 40) (c := 40) (ax := (0, 0, 0, 0, 0)) (mi_k109.2 _ _ (by rfl)) (by rfl) (ksG90 _ _ _ _) (hG.I.2.1 90) rfl (ou16 fi_5701.1) (ou136 c1 fi_5700.2) ?_
    refine ft_goS mi_k109 4 49 [.int (i 5701), .ref 91, .int ((a 90).getD (i 5701).toNatClampNeg 0), .ref 1] (by rfl) ?_
    refine ko_iald3 mi_k109.1 (n := 40) (c := 40) (ax := (0, 0, 0, 0, 0)) (mi_k109.2 _ _ (by rfl)) (by rfl) (ksG91 _ _ _ _) (hG.I.2.1 91) rfl (ou16 fi_5701.1) (ou136 c1 fi_5700.2) ?_
    refine ft_goS mi_k109 4 58 [.int (i 5701), .ref 93, .int ((a 91).getD (i 5701).toNatClampNeg 0), .int ((a 90).getD (i 5701).toNatClampNeg 0), .ref 1] (by rfl) ?_
    refine ko_iald3 mi_k109.1 (n := 40) (c := 40) (ax := (0, 0, 0, 0, 0)) (mi_k109.2 _ _ (by rfl)) (by rfl) (ksG93 _ _ _ _) (hG.I.2.1 93) rfl (ou16 fi_5701.1) (ou136 c1 fi_5700.2) ?_
    refine ko_callN mi_k109.1 (pc := 59) (ls := [(1, .int (i 5701)), (0, .ref 0)]) (st := [.int ((a 93).getD (i 5701).toNatClampNeg 0), .int ((a 91).getD (i 5701).toNatClampNeg 0), .int ((a 90).getD (i 5701).toNatClampNeg 0), .ref 1]) (h := ks i a q r) (i := (.invokevirtual 102, 3, 28, 0, 9, 0, 167)) (mi_k109.2 _ _ (by rfl)) (ft_invS mi_pq28 (by rfl)) (cy := mi_c28) mi_pq28 rfl (ke28_1 hG.I hG.R ((a 90).getD (i 5701).toNatClampNeg 0) ((a 91).getD (i 5701).toNatClampNeg 0) ((a 93).getD (i 5701).toNatClampNeg 0)) (by decide) ?_
    intro ig2 ag2 qg2 rg2 kg2 hg2
    have hGg2 := kG_call hG kg2 (by decide +kernel)
    obtain ⟨hg2, og2⟩ := hg2
    have q3 : ag2 2 = (cSet (i 64) ((a 90).getD (i 5701).toNatClampNeg 0) ((a 91).getD (i 5701).toNatClampNeg 0) ((a 93).getD (i 5701).toNatClampNeg 0) (a 2, a 3, a 4, a 5, i 70, i 71, i 72)).1 := og2.1
    have q4 : ag2 3 = (cSet (i 64) ((a 90).getD (i 5701).toNatClampNeg 0) ((a 91).getD (i 5701).toNatClampNeg 0) ((a 93).getD (i 5701).toNatClampNeg 0) (a 2, a 3, a 4, a 5, i 70, i 71, i 72)).2.1 := og2.2.1
    have q5 : ag2 4 = (cSet (i 64) ((a 90).getD (i 5701).toNatClampNeg 0) ((a 91).getD (i 5701).toNatClampNeg 0) ((a 93).getD (i 5701).toNatClampNeg 0) (a 2, a 3, a 4, a 5, i 70, i 71, i 72)).2.2.1 := og2.2.2.1
    have q6 : ag2 5 = (cSet (i 64) ((a 90).getD (i 5701).toNatClampNeg 0) ((a 91).getD (i 5701).toNatClampNeg 0) ((a 93).getD (i 5701).toNatClampNeg 0) (a 2, a 3, a 4, a 5, i 70, i 71, i 72)).2.2.2.1 := og2.2.2.2.1
    have q7 : ig2 70 = (cSet (i 64) ((a 90).getD (i 5701).toNatClampNeg 0) ((a 91).getD (i 5701).toNatClampNeg 0) ((a 93).getD (i 5701).toNatClampNeg 0) (a 2, a 3, a 4, a 5, i 70, i 71, i 72)).2.2.2.2.1 := og2.2.2.2.2.1
    have q8 : ig2 71 = (cSet (i 64) ((a 90).getD (i 5701).toNatClampNeg 0) ((a 91).getD (i 5701).toNatClampNeg 0) ((a 93).getD (i 5701).toNatClampNeg 0) (a 2, a 3, a 4, a 5, i 70, i 71, i 72)).2.2.2.2.2.1 := og2.2.2.2.2.2.1
    have q9 : ig2 72 = (cSet (i 64) ((a 90).getD (i 5701).toNatClampNeg 0) ((a 91).getD (i 5701).toNatClampNeg 0) ((a 93).getD (i 5701).toNatClampNeg 0) (a 2, a 3, a 4, a 5, i 70, i 71, i 72)).2.2.2.2.2.2 := og2.2.2.2.2.2.2
    have fig2_5701 : ((0 : Int) ≤ (ig2 5701).toInt) ∧ ((ig2 5701).toInt ≤ 40) := hGg2.I.1 5701
    have efig2_5701 : (ig2 5701).toInt = (i 5701).toInt := kg2.ti 5701 rfl
    have s10 : ((ig2 5701) + 1).toInt = (ig2 5701).toInt + (1 : Int32).toInt := kd_add (ou55 fig2_5701.1 kou1) (ou56 fig2_5701.2 kou1)
    have hJ11 := kG_i hGg2 5701 rfl (v := ((ig2 5701) + 1)) ⟨(ou57 fig2_5701.1 s10 kou1), (ou137 c1 efig2_5701 fi_5700.2 s10 kou1)⟩
    have fig2_5700 : ((0 : Int) ≤ (ig2 5700).toInt) ∧ ((ig2 5700).toInt ≤ 40) := hJ11.I.1 5700
    have s12 : ((ig2 5700) - ((ig2 5701) + 1)).toInt = (ig2 5700).toInt - ((ig2 5701) + 1).toInt := kd_sub (ou138 fig2_5700.1 fig2_5701.2 s10 kou1) (ou139 fig2_5700.2 fig2_5701.1 s10 kou1)
    first | refine fo_goI mi_k109 fz109_62_14_90 [.int ((ig2 5700) - ((ig2 5701) + 1))] (ku ig2 5701 ((ig2 5701) + 1)) (by rfl) ?_ | refine ft_go mi_k109 14 90 [(1, .int (i 5701)), (0, .ref 0)] [.int ((ig2 5700) - ((ig2 5701) + 1))] (ku ig2 5701 ((ig2 5701) + 1)) ag2 qg2 rg2 (by rfl) ?_
    have bw13 : ¬ ((i 5700).toInt ≤ (i 5701).toInt) := (ou140 c1)
    exact ft_ret mi_k109 (by rfl) (hP ((ig2 5700) - ((ig2 5701) + 1)) _ _ _ _ hJ11 ⟨trivial, ⟨(show ((ig2 5700) - ((ig2 5701) + 1)) = (cRedo (i 64) (a 2, a 3, a 4, a 5, i 70, i 71, i 72) (a 90, a 91, a 92, a 93, i 5700, i 5701)).1 from (by unfold cRedo; simp only [if_neg bw13]; first | done | rfl | (simp only [(show ig2 5700 = i 5700 from kg2.fi 5700 rfl), (show ig2 5701 = i 5701 from kg2.fi 5701 rfl), sMn, sMx]; done) | (simp only [(show ig2 5700 = i 5700 from kg2.fi 5700 rfl), (show ig2 5701 = i 5701 from kg2.fi 5701 rfl), sMn, sMx]; rfl))), (show ag2 2 = ((cRedo (i 64) (a 2, a 3, a 4, a 5, i 70, i 71, i 72) (a 90, a 91, a 92, a 93, i 5700, i 5701)).2.1).1 from (by unfold cRedo; simp only [if_neg bw13]; first | done | rfl | (simp only [q3, sMn, sMx]; done) | (simp only [q3, sMn, sMx]; rfl))), (show ag2 3 = ((cRedo (i 64) (a 2, a 3, a 4, a 5, i 70, i 71, i 72) (a 90, a 91, a 92, a 93, i 5700, i 5701)).2.1).2.1 from (by unfold cRedo; simp only [if_neg bw13]; first | done | rfl | (simp only [q4, sMn, sMx]; done) | (simp only [q4, sMn, sMx]; rfl))), (show ag2 4 = ((cRedo (i 64) (a 2, a 3, a 4, a 5, i 70, i 71, i 72) (a 90, a 91, a 92, a 93, i 5700, i 5701)).2.1).2.2.1 from (by unfold cRedo; simp only [if_neg bw13]; first | done | rfl | (simp only [q5, sMn, sMx]; done) | (simp only [q5, sMn, sMx]; rfl))), (show ag2 5 = ((cRedo (i 64) (a 2, a 3, a 4, a 5, i 70, i 71, i 72) (a 90, a 91, a 92, a 93, i 5700, i 5701)).2.1).2.2.2.1 from (by unfold cRedo; simp only [if_neg bw13]; first | done | rfl | (simp only [q6, sMn, sMx]; done) | (simp only [q6, sMn, sMx]; rfl))), (show ig2 70 = ((cRedo (i 64) (a 2, a 3, a 4, a 5, i 70, i 71, i 72) (a 90, a 91, a 92, a 93, i 5700, i 5701)).2.1).2.2.2.2.1 from (by unfold cRedo; simp only [if_neg bw13]; first | done | rfl | (simp only [q7, sMn, sMx]; done) | (simp only [q7, sMn, sMx]; rfl))), (show ig2 71 = ((cRedo (i 64) (a 2, a 3, a 4, a 5, i 70, i 71, i 72) (a 90, a 91, a 92, a 93, i 5700, i 5701)).2.1).2.2.2.2.2.1 from (by unfold cRedo; simp only [if_neg bw13]; first | done | rfl | (simp only [q8, sMn, sMx]; done) | (simp only [q8, sMn, sMx]; rfl))), (show ig2 72 = ((cRedo (i 64) (a 2, a 3, a 4, a 5, i 70, i 71, i 72) (a 90, a 91, a 92, a 93, i 5700, i 5701)).2.1).2.2.2.2.2.2 from (by unfold cRedo; simp only [if_neg bw13]; first | done | rfl | (simp only [q9, sMn, sMx]; done) | (simp only [q9, sMn, sMx]; rfl))), (show ag2 90 = ((cRedo (i 64) (a 2, a 3, a 4, a 5, i 70, i 71, i 72) (a 90, a 91, a 92, a 93, i 5700, i 5701)).2.2).1 from (by unfold cRedo; simp only [if_neg bw13]; first | done | rfl | (simp only [kg2.fa 90 rfl, sMn, sMx]; done) | (simp only [kg2.fa 90 rfl, sMn, sMx]; rfl))), (show ag2 91 = ((cRedo (i 64) (a 2, a 3, a 4, a 5, i 70, i 71, i 72) (a 90, a 91, a 92, a 93, i 5700, i 5701)).2.2).2.1 from (by unfold cRedo; simp only [if_neg bw13]; first | done | rfl | (simp only [kg2.fa 91 rfl, sMn, sMx]; done) | (simp only [kg2.fa 91 rfl, sMn, sMx]; rfl))), (show ag2 92 = ((cRedo (i 64) (a 2, a 3, a 4, a 5, i 70, i 71, i 72) (a 90, a 91, a 92, a 93, i 5700, i 5701)).2.2).2.2.1 from (by unfold cRedo; simp only [if_neg bw13]; first | done | rfl | (simp only [kg2.fa 92 rfl, sMn, sMx]; done) | (simp only [kg2.fa 92 rfl, sMn, sMx]; rfl))), (show ag2 93 = ((cRedo (i 64) (a 2, a 3, a 4, a 5, i 70, i 71, i 72) (a 90, a 91, a 92, a 93, i 5700, i 5701)).2.2).2.2.2.1 from (by unfold cRedo; simp only [if_neg bw13]; first | done | rfl | (simp only [kg2.fa 93 rfl, sMn, sMx]; done) | (simp only [kg2.fa 93 rfl, sMn, sMx]; rfl))), (show ig2 5700 = ((cRedo (i 64) (a 2, a 3, a 4, a 5, i 70, i 71, i 72) (a 90, a 91, a 92, a 93, i 5700, i 5701)).2.2).2.2.2.2.1 from (by unfold cRedo; simp only [if_neg bw13]; first | done | rfl | (simp only [(show ig2 5700 = i 5700 from kg2.fi 5700 rfl), sMn, sMx]; done) | (simp only [(show ig2 5700 = i 5700 from kg2.fi 5700 rfl), sMn, sMx]; rfl))), (show ((ig2 5701) + 1) = ((cRedo (i 64) (a 2, a 3, a 4, a 5, i 70, i 71, i 72) (a 90, a 91, a 92, a 93, i 5700, i 5701)).2.2).2.2.2.2.2 from (by unfold cRedo; simp only [if_neg bw13]; first | done | rfl | (simp only [(show ig2 5701 = i 5701 from kg2.fi 5701 rfl), sMn, sMx]; done) | (simp only [(show ig2 5701 = i 5701 from kg2.fi 5701 rfl), sMn, sMx]; rfl)))⟩⟩)
  ·
    have c14 : (i 5700).toInt ≤ (i 5701).toInt := kd_ltF c; clear c
    refine ft_goS mi_k109 1 19 [.int (-5)] (by rfl) ?_
    have bw15 : (i 5700).toInt ≤ (i 5701).toInt := (ou141 c14)
    exact ft_ret mi_k109 (by rfl) (hP (-5) _ _ _ _ hG ⟨trivial, ⟨(show ((-5) : Int32) = (cRedo (i 64) (a 2, a 3, a 4, a 5, i 70, i 71, i 72) (a 90, a 91, a 92, a 93, i 5700, i 5701)).1 from (by unfold cRedo; simp only [if_pos bw15]; first | done | rfl | (simp only [sMn, sMx]; done) | (simp only [sMn, sMx]; rfl))), (show a 2 = ((cRedo (i 64) (a 2, a 3, a 4, a 5, i 70, i 71, i 72) (a 90, a 91, a 92, a 93, i 5700, i 5701)).2.1).1 from (by unfold cRedo; simp only [if_pos bw15]; first | done | rfl | (simp only [sMn, sMx]; done) | (simp only [sMn, sMx]; rfl))), (show a 3 = ((cRedo (i 64) (a 2, a 3, a 4, a 5, i 70, i 71, i 72) (a 90, a 91, a 92, a 93, i 5700, i 5701)).2.1).2.1 from (by unfold cRedo; simp only [if_pos bw15]; first | done | rfl | (simp only [sMn, sMx]; done) | (simp only [sMn, sMx]; rfl))), (show a 4 = ((cRedo (i 64) (a 2, a 3, a 4, a 5, i 70, i 71, i 72) (a 90, a 91, a 92, a 93, i 5700, i 5701)).2.1).2.2.1 from (by unfold cRedo; simp only [if_pos bw15]; first | done | rfl | (simp only [sMn, sMx]; done) | (simp only [sMn, sMx]; rfl))), (show a 5 = ((cRedo (i 64) (a 2, a 3, a 4, a 5, i 70, i 71, i 72) (a 90, a 91, a 92, a 93, i 5700, i 5701)).2.1).2.2.2.1 from (by unfold cRedo; simp only [if_pos bw15]; first | done | rfl | (simp only [sMn, sMx]; done) | (simp only [sMn, sMx]; rfl))), (show i 70 = ((cRedo (i 64) (a 2, a 3, a 4, a 5, i 70, i 71, i 72) (a 90, a 91, a 92, a 93, i 5700, i 5701)).2.1).2.2.2.2.1 from (by unfold cRedo; simp only [if_pos bw15]; first | done | rfl | (simp only [sMn, sMx]; done) | (simp only [sMn, sMx]; rfl))), (show i 71 = ((cRedo (i 64) (a 2, a 3, a 4, a 5, i 70, i 71, i 72) (a 90, a 91, a 92, a 93, i 5700, i 5701)).2.1).2.2.2.2.2.1 from (by unfold cRedo; simp only [if_pos bw15]; first | done | rfl | (simp only [sMn, sMx]; done) | (simp only [sMn, sMx]; rfl))), (show i 72 = ((cRedo (i 64) (a 2, a 3, a 4, a 5, i 70, i 71, i 72) (a 90, a 91, a 92, a 93, i 5700, i 5701)).2.1).2.2.2.2.2.2 from (by unfold cRedo; simp only [if_pos bw15]; first | done | rfl | (simp only [sMn, sMx]; done) | (simp only [sMn, sMx]; rfl))), (show a 90 = ((cRedo (i 64) (a 2, a 3, a 4, a 5, i 70, i 71, i 72) (a 90, a 91, a 92, a 93, i 5700, i 5701)).2.2).1 from (by unfold cRedo; simp only [if_pos bw15]; first | done | rfl | (simp only [sMn, sMx]; done) | (simp only [sMn, sMx]; rfl))), (show a 91 = ((cRedo (i 64) (a 2, a 3, a 4, a 5, i 70, i 71, i 72) (a 90, a 91, a 92, a 93, i 5700, i 5701)).2.2).2.1 from (by unfold cRedo; simp only [if_pos bw15]; first | done | rfl | (simp only [sMn, sMx]; done) | (simp only [sMn, sMx]; rfl))), (show a 92 = ((cRedo (i 64) (a 2, a 3, a 4, a 5, i 70, i 71, i 72) (a 90, a 91, a 92, a 93, i 5700, i 5701)).2.2).2.2.1 from (by unfold cRedo; simp only [if_pos bw15]; first | done | rfl | (simp only [sMn, sMx]; done) | (simp only [sMn, sMx]; rfl))), (show a 93 = ((cRedo (i 64) (a 2, a 3, a 4, a 5, i 70, i 71, i 72) (a 90, a 91, a 92, a 93, i 5700, i 5701)).2.2).2.2.2.1 from (by unfold cRedo; simp only [if_pos bw15]; first | done | rfl | (simp only [sMn, sMx]; done) | (simp only [sMn, sMx]; rfl))), (show i 5700 = ((cRedo (i 64) (a 2, a 3, a 4, a 5, i 70, i 71, i 72) (a 90, a 91, a 92, a 93, i 5700, i 5701)).2.2).2.2.2.2.1 from (by unfold cRedo; simp only [if_pos bw15]; first | done | rfl | (simp only [sMn, sMx]; done) | (simp only [sMn, sMx]; rfl))), (show i 5701 = ((cRedo (i 64) (a 2, a 3, a 4, a 5, i 70, i 71, i 72) (a 90, a 91, a 92, a 93, i 5700, i 5701)).2.2).2.2.2.2.2 from (by unfold cRedo; simp only [if_pos bw15]; first | done | rfl | (simp only [sMn, sMx]; done) | (simp only [sMn, sMx]; rfl)))⟩⟩)
end
section
/-! lists copied, moved, laid back -/
theorem kShf_eq {l0 l : List Int32} {x : Int32} (h : kShf l0 l x.toInt.toNat) (hx : x.toInt = 156) (h0 : l0.length = 160) (hl : l.length = 160) : l = rShf l0 := by
  have hr := (rShf_g h0 0 (by omega)).2
  refine List.ext_getElem (hl.trans hr.symm) (fun j h1 h2 => ?_)
  have e : l.getD j 0 = (rShf l0).getD j 0 := by
    rw [show x.toInt.toNat = 156 by omega] at h
    by_cases c : j < 156
    · rw [h.1 j c, (rShf_g h0 j c).1]
    · rw [h.2 j (by omega)]
      unfold rShf
      rw [List.getD_eq_getElem?_getD, List.getD_eq_getElem?_getD, List.getElem?_append_right (by rw [List.length_drop]; omega), List.getElem?_drop, List.length_drop, show 156 + (j - (l0.length - 4)) = j by omega]
  rw [List.getD_eq_getElem?_getD, List.getD_eq_getElem?_getD, List.getElem?_eq_getElem h1, List.getElem?_eq_getElem h2] at e
  exact e
theorem kListn {l m : List Int32} {n : Nat} (hl : l.length = n) (hm : m.length = n) (h : ∀ j : Nat, j < n → l.getD j 0 = m.getD j 0) : l = m := by
  refine List.ext_getElem (hl.trans hm.symm) (fun j h1 h2 => ?_)
  have := h j (by omega)
  rw [List.getD_eq_getElem?_getD, List.getD_eq_getElem?_getD, List.getElem?_eq_getElem h1, List.getElem?_eq_getElem h2] at this
  exact this
noncomputable def kPre (L S : List Int32) (x : Int) : Prop := ∀ j : Nat, (j : Int) < x → L.getD j 0 = S.getD j 0
theorem kPre_zero {L S : List Int32} {z : Int32} (h : z.toInt = 0) : kPre L S z.toInt := fun j hj => by omega
theorem kPre_step {L0 L1 S S1 : List Int32} {n : Nat} {x x1 : Int32} (h : kPre L0 S x.toInt) (hl : L0.length = n) (h0 : 0 ≤ x.toInt) (hn : x.toInt < (n : Int)) (h1 : x1.toInt = x.toInt + 1) (es : S1 = S) (e : L1 = L0.set x.toNatClampNeg (S1.getD x.toNatClampNeg 0)) : kPre L1 S x1.toInt := by
  have tx := Int32.toNat_toInt x
  subst es
  subst e
  intro j hj
  rw [kset_gI (by omega)]
  by_cases c : j = x.toNatClampNeg
  · rw [if_pos c, c]
  · rw [if_neg c]; exact h j (by omega)
theorem kPre_end {L S : List Int32} {x : Int} {n : Nat} (h : kPre L S x) (hl : L.length = n) (hs : S.length = n) (hx : (n : Int) ≤ x) : L = S := kListn hl hs (fun j hj => h j (by omega))
/-- laid back: all but what came since b buyers -/
noncomputable def rSince (b : Int32) (j : Nat) : Prop := ((j : Int) < 8 ∧ b.toInt ≤ (j : Int)) ∨ (10 + b.toInt ≤ (j : Int) ∧ (j : Int) < 18)
noncomputable def kBk (b : Int32) (L N S : List Int32) (x : Int) : Prop := ∀ j : Nat, L.getD j 0 = (bif (decide ((j : Int) < x) && !(decide ((j : Int) < 8 ∧ b.toInt ≤ (j : Int)) || decide (10 + b.toInt ≤ (j : Int) ∧ (j : Int) < 18))) then S.getD j 0 else N.getD j 0)
theorem kBk_no {b : Int32} {L N S : List Int32} {x : Int} (h : kBk b L N S x) (j : Nat) (hj : x ≤ (j : Int) ∨ rSince b j) : L.getD j 0 = N.getD j 0 := by
  rw [h j]
  have e : (decide ((j : Int) < x) && !(decide ((j : Int) < 8 ∧ b.toInt ≤ (j : Int)) || decide (10 + b.toInt ≤ (j : Int) ∧ (j : Int) < 18))) = false := by
    rcases hj with hj | hj | hj
    · rw [decide_eq_false (by omega)]; rfl
    · rw [decide_eq_true hj, Bool.true_or, Bool.not_true, Bool.and_false]
    · rw [decide_eq_true hj, Bool.or_true, Bool.not_true, Bool.and_false]
  rw [e]
  rfl
theorem kBk_yes {b : Int32} {L N S : List Int32} {x : Int} (h : kBk b L N S x) (j : Nat) (hj : (j : Int) < x) (hs : ¬ rSince b j) : L.getD j 0 = S.getD j 0 := by
  rw [h j]
  unfold rSince at hs
  rw [decide_eq_true hj, decide_eq_false (fun z => hs (Or.inl z)), decide_eq_false (fun z => hs (Or.inr z))]
  rfl
theorem kBk_of {b : Int32} {L N S : List Int32} {x : Int} (h1 : ∀ j : Nat, (x ≤ (j : Int) ∨ rSince b j) → L.getD j 0 = N.getD j 0) (h2 : ∀ j : Nat, (j : Int) < x → ¬ rSince b j → L.getD j 0 = S.getD j 0) : kBk b L N S x := by
  intro j
  by_cases c1 : (j : Int) < x
  · by_cases c2 : (j : Int) < 8 ∧ b.toInt ≤ (j : Int)
    · rw [h1 j (Or.inr (Or.inl c2)), decide_eq_true c2, Bool.true_or, Bool.not_true, Bool.and_false]
      rfl
    · by_cases c3 : 10 + b.toInt ≤ (j : Int) ∧ (j : Int) < 18
      · rw [h1 j (Or.inr (Or.inr c3)), decide_eq_true c3, Bool.or_true, Bool.not_true, Bool.and_false]
        rfl
      · rw [h2 j c1 (fun z => by rcases z with z | z; exact c2 z; exact c3 z), decide_eq_true c1, decide_eq_false c2, decide_eq_false c3]
        rfl
  · rw [h1 j (Or.inl (by omega)), decide_eq_false c1]
    rfl
theorem kBk_zero {b : Int32} {L N S : List Int32} {z : Int32} (e : L = N) (h : z.toInt = 0) : kBk b L N S z.toInt := kBk_of (fun j _ => by rw [e]) (fun j hj => by omega)
theorem kBk_skip {b : Int32} {L0 L1 N S : List Int32} {x x1 : Int32} (h : kBk b L0 N S x.toInt) (h0 : 0 ≤ x.toInt) (hs : (x.toInt < 8 ∧ b.toInt ≤ x.toInt) ∨ (10 + b.toInt ≤ x.toInt ∧ x.toInt < 18)) (h1 : x1.toInt = x.toInt + 1) (e : L1 = L0) : kBk b L1 N S x1.toInt := by
  subst e
  refine kBk_of (fun j hj => kBk_no h j (hj.imp (fun z => by omega) (fun z => z))) (fun j hj hn => ?_)
  by_cases c : (j : Int) < x.toInt
  · exact kBk_yes h j c hn
  · refine absurd ?_ hn
    unfold rSince
    rw [show (j : Int) = x.toInt by omega]
    exact hs
theorem kBk_step {b : Int32} {L0 L1 N S S1 : List Int32} {x x1 : Int32} (h : kBk b L0 N S x.toInt) (hl : L0.length = 31) (h0 : 0 ≤ x.toInt) (hn : x.toInt < 31) (hs : ¬ ((x.toInt < 8 ∧ b.toInt ≤ x.toInt) ∨ (10 + b.toInt ≤ x.toInt ∧ x.toInt < 18))) (h1 : x1.toInt = x.toInt + 1) (es : S1 = S) (e : L1 = L0.set x.toNatClampNeg (S1.getD x.toNatClampNeg 0)) : kBk b L1 N S x1.toInt := by
  have tx := Int32.toNat_toInt x
  subst es
  subst e
  refine kBk_of (fun j hj => ?_) (fun j hj hm => ?_)
  · rw [kset_gI (by omega), if_neg (fun z => ?_)]
    · exact kBk_no h j (hj.imp (fun z => by omega) (fun z => z))
    · rcases hj with hj | hj
      · omega
      · unfold rSince at hj
        rw [show (j : Int) = x.toInt by omega] at hj
        exact hs hj
  · rw [kset_gI (by omega)]
    by_cases c : j = x.toNatClampNeg
    · rw [if_pos c, c]
    · rw [if_neg c]; exact kBk_yes h j (by omega) hm
noncomputable def rBk (b : Int32) (N S : List Int32) : List Int32 := (List.range 31).map (fun j : Nat => bif (decide ((j : Int) < 8 ∧ b.toInt ≤ (j : Int)) || decide (10 + b.toInt ≤ (j : Int) ∧ (j : Int) < 18)) then N.getD j 0 else S.getD j 0)
theorem rBk_len {b : Int32} {N S : List Int32} : (rBk b N S).length = 31 := by unfold rBk; rw [List.length_map, List.length_range]
theorem rBk_g {b : Int32} {N S : List Int32} {j : Nat} (hj : j < 31) : (rSince b j → (rBk b N S).getD j 0 = N.getD j 0) ∧ (¬ rSince b j → (rBk b N S).getD j 0 = S.getD j 0) := by
  have e : (rBk b N S).getD j 0 = bif (decide ((j : Int) < 8 ∧ b.toInt ≤ (j : Int)) || decide (10 + b.toInt ≤ (j : Int) ∧ (j : Int) < 18)) then N.getD j 0 else S.getD j 0 := by
    unfold rBk
    rw [List.getD_eq_getElem?_getD, List.getElem?_map, List.getElem?_range hj]
    rfl
  rw [e]
  constructor
  · rintro (h | h)
    · rw [decide_eq_true h, Bool.true_or]; rfl
    · rw [decide_eq_true h, Bool.or_true]; rfl
  · intro h
    unfold rSince at h
    rw [decide_eq_false (fun z => h (Or.inl z)), decide_eq_false (fun z => h (Or.inr z))]
    rfl
theorem kBk_end {b : Int32} {L N S : List Int32} {x : Int} (h : kBk b L N S x) (hl : L.length = 31) (hx : 31 ≤ x) : L = rBk b N S := kListn hl rBk_len (fun j hj => by
  by_cases c : rSince b j
  · rw [kBk_no h j (Or.inr c), (rBk_g hj).1 c]
  · rw [kBk_yes h j (by omega) c, (rBk_g hj).2 c])
end
section
theorem kor0 : (0 : Int32).toInt = 0 := by decide
theorem kor1 : (1 : Int32).toInt = 1 := by decide
theorem kor8 : (8 : Int32).toInt = 8 := by decide
theorem kor2 : (2 : Int32).toInt = 2 := by decide
theorem kor3 : (3 : Int32).toInt = 3 := by decide
theorem kor4 : (4 : Int32).toInt = 4 := by decide
theorem kor5 : (5 : Int32).toInt = 5 := by decide
theorem kor6 : (6 : Int32).toInt = 6 := by decide
theorem kor999 : (999 : Int32).toInt = 999 := by decide
theorem kor40 : (40 : Int32).toInt = 40 := by decide
theorem kor156 : (156 : Int32).toInt = 156 := by decide
theorem kor9 : (9 : Int32).toInt = 9 := by decide
theorem kor99 : (99 : Int32).toInt = 99 := by decide
theorem kor31 : (31 : Int32).toInt = 31 := by decide
theorem kor10 : (10 : Int32).toInt = 10 := by decide
theorem kor18 : (18 : Int32).toInt = 18 := by decide
theorem kor19 : (19 : Int32).toInt = 19 := by decide
theorem or0 {a0 : Int} (h0 : (0 : Int) ≤ a0) : (0 : Int) ≤ a0 := oz3 h0
theorem or1 {a0 : Int} (h0 : a0 ≤ 7) : a0 < 31 := oz65 h0
theorem or2 {a0 a1 : Int} (h0 : a0 = 0) : ((a0 = 4) → (((1 : Int) ≤ a1) ∧ (a1 ≤ 5))) := oz56 h0
theorem or3 {a0 : Int} (h0 : (0 : Int) ≤ a0) (h1 : a0 = 0) : a0 = 0 := oz1348 h0 h1
theorem or4 {a0 : Int} (h0 : a0 = 1) : (-2147483648 : Int) ≤ 8 * a0 := oz66 h0
theorem or5 {a0 : Int} (h0 : a0 ≤ 6) : 8 * a0 ≤ 2147483647 := oz67 h0
theorem or6 {a0 a1 a2 : Int} (h0 : a0 = 8 * a1) (h1 : a1 = 1) (h2 : a2 = 8) : (-2147483648 : Int) ≤ a0 - a2 := oz68 h0 h1 h2
theorem or7 {a0 a1 a2 : Int} (h0 : a0 ≤ 6) (h1 : a1 = 8 * a0) (h2 : a2 = 8) : a1 - a2 ≤ 2147483647 := oz69 h0 h1 h2
theorem or8 {a0 a1 a2 a3 a4 : Int} (h0 : (0 : Int) ≤ a0) (h1 : (0 : Int) ≤ a1) (h2 : a2 = 8 * a1) (h3 : a3 = a2 - a4) (h4 : a4 = 8) : (-2147483648 : Int) ≤ a3 + a0 := oz70 h0 h1 h2 h3 h4
theorem or9 {a0 a1 a2 a3 a4 : Int} (h0 : a0 ≤ 7) (h1 : a1 ≤ 6) (h2 : a2 = 8 * a1) (h3 : a3 = a2 - a4) (h4 : a4 = 8) : a3 + a0 ≤ 2147483647 := oz71 h0 h1 h2 h3 h4
theorem or10 {a0 a1 a2 a3 a4 a5 : Int} (h0 : (0 : Int) ≤ a0) (h1 : a1 = 8 * a2) (h2 : a3 = a1 - a4) (h3 : a5 = a3 + a0) (h4 : a2 = 1) (h5 : a4 = 8) : (0 : Int) ≤ a5 := oz72 h0 h1 h2 h3 h4 h5
theorem or11 {a0 a1 a2 a3 a4 a5 : Int} (h0 : a0 ≤ 7) (h1 : a1 = 8 * a2) (h2 : a3 = a1 - a4) (h3 : a5 = a3 + a0) (h4 : a2 = 1) (h5 : a4 = 8) : a5 < 24 := oz73 h0 h1 h2 h3 h4 h5
theorem or12 {a0 a1 : Int} (h0 : a0 = 1) : ((a0 = 4) → (((1 : Int) ≤ a1) ∧ (a1 ≤ 5))) := oz57 h0
theorem or13 {a0 : Int} (h0 : a0 = 1) : ¬ (a0 = 0) := ou25 h0
theorem or14 {a0 : Int} (h0 : a0 = 1) : ¬ (a0 = 4) := ou22 h0
theorem or15 {a0 : Int} (h0 : a0 = 1) : ¬ (a0 = 5) := ou23 h0
theorem or16 {a0 : Int} (h0 : a0 = 1) : ¬ (a0 = 6) := ou24 h0
theorem or17 {a0 : Int} (h0 : a0 = 2) : (-2147483648 : Int) ≤ 8 * a0 := oz74 h0
theorem or18 {a0 a1 a2 : Int} (h0 : a0 = 8 * a1) (h1 : a1 = 2) (h2 : a2 = 8) : (-2147483648 : Int) ≤ a0 - a2 := oz75 h0 h1 h2
theorem or19 {a0 a1 a2 a3 a4 : Int} (h0 : (0 : Int) ≤ a0) (h1 : a1 = 8 * a2) (h2 : a3 = a1 - a4) (h3 : a2 = 2) (h4 : a4 = 8) : (-2147483648 : Int) ≤ a3 + a0 := oz76 h0 h1 h2 h3 h4
theorem or20 {a0 a1 a2 a3 a4 a5 : Int} (h0 : (0 : Int) ≤ a0) (h1 : a1 = 8 * a2) (h2 : a3 = a1 - a4) (h3 : a5 = a3 + a0) (h4 : a2 = 2) (h5 : a4 = 8) : (0 : Int) ≤ a5 := by omega
theorem or21 {a0 a1 a2 a3 a4 a5 : Int} (h0 : a0 ≤ 7) (h1 : a1 = 8 * a2) (h2 : a3 = a1 - a4) (h3 : a5 = a3 + a0) (h4 : a2 = 2) (h5 : a4 = 8) : a5 < 24 := by omega
theorem or22 {a0 a1 : Int} (h0 : a0 = 2) : ((a0 = 4) → (((1 : Int) ≤ a1) ∧ (a1 ≤ 5))) := oz58 h0
theorem or23 {a0 : Int} (h0 : a0 = 2) : ¬ (a0 = 0) := ou29 h0
theorem or24 {a0 : Int} (h0 : a0 = 2) : ¬ (a0 = 4) := ou26 h0
theorem or25 {a0 : Int} (h0 : a0 = 2) : ¬ (a0 = 5) := ou27 h0
theorem or26 {a0 : Int} (h0 : a0 = 2) : ¬ (a0 = 6) := ou28 h0
theorem or27 {a0 : Int} (h0 : a0 = 3) : (-2147483648 : Int) ≤ 8 * a0 := oz79 h0
theorem or28 {a0 a1 a2 : Int} (h0 : a0 = 8 * a1) (h1 : a1 = 3) (h2 : a2 = 8) : (-2147483648 : Int) ≤ a0 - a2 := oz80 h0 h1 h2
theorem or29 {a0 a1 a2 a3 a4 : Int} (h0 : (0 : Int) ≤ a0) (h1 : a1 = 8 * a2) (h2 : a3 = a1 - a4) (h3 : a2 = 3) (h4 : a4 = 8) : (-2147483648 : Int) ≤ a3 + a0 := oz81 h0 h1 h2 h3 h4
theorem or30 {a0 a1 a2 a3 a4 a5 : Int} (h0 : (0 : Int) ≤ a0) (h1 : a1 = 8 * a2) (h2 : a3 = a1 - a4) (h3 : a5 = a3 + a0) (h4 : a2 = 3) (h5 : a4 = 8) : (0 : Int) ≤ a5 := oz82 h0 h1 h2 h3 h4 h5
theorem or31 {a0 a1 a2 a3 a4 a5 : Int} (h0 : a0 ≤ 7) (h1 : a1 = 8 * a2) (h2 : a3 = a1 - a4) (h3 : a5 = a3 + a0) (h4 : a2 = 3) (h5 : a4 = 8) : a5 < 24 := oz83 h0 h1 h2 h3 h4 h5
theorem or32 {a0 a1 : Int} (h0 : a0 = 3) : ((a0 = 4) → (((1 : Int) ≤ a1) ∧ (a1 ≤ 5))) := oz59 h0
theorem or33 {a0 : Int} (h0 : a0 = 3) : ¬ (a0 = 0) := by omega
theorem or34 {a0 : Int} (h0 : a0 = 3) : ¬ (a0 = 4) := by omega
theorem or35 {a0 : Int} (h0 : a0 = 3) : ¬ (a0 = 5) := by omega
theorem or36 {a0 : Int} (h0 : a0 = 3) : ¬ (a0 = 6) := by omega
theorem or37 {a0 a1 : Int} (h0 : (1 : Int) ≤ a0) (h1 : a0 ≤ 5) : ((a1 = 4) → (((1 : Int) ≤ a0) ∧ (a0 ≤ 5))) := oz84 h0 h1
theorem or38 {a0 : Int} (h0 : a0 = 4) : ¬ (a0 = 0) := by omega
theorem or39 {a0 : Int} (h0 : a0 = 4) : a0 = 4 := oz1446 h0
theorem or40 {a0 a1 : Int} (h0 : a0 = 5) : ((a0 = 4) → (((1 : Int) ≤ a1) ∧ (a1 ≤ 5))) := oz61 h0
theorem or41 {a0 : Int} (h0 : a0 = 5) : ¬ (a0 = 0) := by omega
theorem or42 {a0 : Int} (h0 : a0 = 5) : ¬ (a0 = 4) := ou1 h0
theorem or43 {a0 : Int} (h0 : a0 = 5) : a0 = 5 := oz1470 h0
theorem or44 {a0 : Int} (h0 : a0 = 8) : (0 : Int) ≤ a0 := oz85 h0
theorem or45 {a0 : Int} (h0 : a0 = 8) : a0 < 31 := oz86 h0
theorem or46 {a0 a1 : Int} (h0 : a0 = 6) : ((a0 = 4) → (((1 : Int) ≤ a1) ∧ (a1 ≤ 5))) := oz62 h0
theorem or47 {a0 : Int} (h0 : a0 = 6) : ¬ (a0 = 0) := by omega
theorem or48 {a0 : Int} (h0 : a0 = 6) : ¬ (a0 = 4) := ou3 h0
theorem or49 {a0 : Int} (h0 : a0 = 6) : ¬ (a0 = 5) := ou4 h0
theorem or50 {a0 : Int} (h0 : a0 ≤ 6) (h1 : a0 = 6) : a0 = 6 := by omega
theorem or51 {a0 : Int} (h0 : (0 : Int) ≤ a0) (h1 : a0 ≤ 6) (h2 : ¬ (a0 = 0)) (h3 : ¬ (a0 = 2)) (h4 : ¬ (a0 = 3)) (h5 : ¬ (a0 = 4)) (h6 : ¬ (a0 = 5)) (h7 : ¬ (a0 = 6)) (h8 : ¬ (a0 = 1)) : False := by omega
theorem or52 {a0 a1 : Int} (h0 : a0 ≤ 7) : a0 = 18 → (0 : Int) ≤ a1 ∧ a1 ≤ 5 := oz90 h0
theorem or53 {a0 a1 : Int} (h0 : a0 ≤ 7) : 19 ≤ a0 → a0 ≤ 24 → (0 : Int) ≤ a1 ∧ a1 ≤ 7 := oz91 h0
theorem or54 {a0 a1 : Int} (h0 : ((a0 = 4) → (((1 : Int) ≤ a1) ∧ (a1 ≤ 5)))) (h1 : a0 = 4) : (1 : Int) ≤ a1 := oz96 h0 h1
theorem or55 {a0 a1 : Int} (h0 : ((a0 = 4) → (((1 : Int) ≤ a1) ∧ (a1 ≤ 5)))) (h1 : a0 = 4) : a1 ≤ 5 := oz97 h0 h1
theorem or56 {a0 a1 : Int} (h0 : a0 = 8) : a0 = 18 → (0 : Int) ≤ a1 ∧ a1 ≤ 5 := oz98 h0
theorem or57 {a0 a1 : Int} (h0 : a0 = 8) : 19 ≤ a0 → a0 ≤ 24 → (0 : Int) ≤ a1 ∧ a1 ≤ 7 := oz99 h0
theorem or58 {a0 : Int} (h0 : (0 : Int) ≤ a0) (h1 : a0 ≤ 6) (h2 : ¬ (a0 = 0)) (h3 : ¬ (a0 = 2)) (h4 : ¬ (a0 = 3)) (h5 : ¬ (a0 = 4)) (h6 : ¬ (a0 = 5)) (h7 : ¬ (a0 = 1)) (h8 : ¬ (a0 = 6)) : False := by omega
theorem or62 {a0 a1 : Int} (h0 : (0 : Int) ≤ a0) (h1 : a1 = 1) : (-2147483648 : Int) ≤ a0 - a1 := oz47 h0 h1
theorem or71 {a0 a1 a2 : Int} (h0 : a0 ≤ 8) (h1 : (((0 : Int) ≤ a1) ∧ (a1 ≤ 3) ∧ ((0 : Int) ≤ a2) ∧ (a2 < a0)) ∨ (((4 : Int) ≤ a1) ∧ (a1 ≤ 6) ∧ (a2 = 0))) : ((0 : Int) ≤ a2) ∧ (a2 ≤ 7) := oz88 h0 h1
theorem or72 {a0 a1 a2 : Int} (h0 : (((0 : Int) ≤ a0) ∧ (a0 ≤ 3) ∧ ((0 : Int) ≤ a1) ∧ (a1 < a2)) ∨ (((4 : Int) ≤ a0) ∧ (a0 ≤ 6) ∧ (a1 = 0))) : ((0 : Int) ≤ a0) ∧ (a0 ≤ 6) := oz89 h0
theorem or73 {a0 a1 a2 : Int} (h0 : (((0 : Int) ≤ a0) ∧ (a0 ≤ 3) ∧ ((0 : Int) ≤ a1) ∧ (a1 < a2)) ∨ (((4 : Int) ≤ a0) ∧ (a0 ≤ 6) ∧ (a1 = 0))) : (((0 : Int) ≤ a0) ∧ (a0 ≤ 3) ∧ ((0 : Int) ≤ a1) ∧ (a1 < a2)) ∨ (((4 : Int) ≤ a0) ∧ (a0 ≤ 6) ∧ (a1 = 0)) := ou74 h0
theorem or74 {a0 a1 a2 : Int} (h0 : (0 : Int) ≤ a0) (h1 : ¬ ((((0 : Int) ≤ a1) ∧ (a1 ≤ 3) ∧ ((0 : Int) ≤ a2) ∧ (a2 < a0)) ∨ (((4 : Int) ≤ a1) ∧ (a1 ≤ 6) ∧ (a2 = 0)))) : ¬ ((((0 : Int) ≤ a1) ∧ (a1 ≤ 3) ∧ ((0 : Int) ≤ a2) ∧ (a2 < a0)) ∨ (((4 : Int) ≤ a1) ∧ (a1 ≤ 6) ∧ (a2 = 0))) := ou75 h0 h1
theorem or75 {a0 a1 a2 : Int} (h0 : a0 ≤ a1) (h1 : a1 ≤ a2) (h2 : a0 = 0) (h3 : a2 = 999) : ((0 : Int) ≤ a1) ∧ (a1 ≤ 999) := ou80 h0 h1 h2 h3
theorem or76 {a0 a1 a2 : Int} (h0 : ¬ ((a0 ≤ a1) ∧ (a1 ≤ a2))) (h1 : a0 = 0) (h2 : a2 = 999) : ¬ (((0 : Int) ≤ a1) ∧ (a1 ≤ 999)) := ou81 h0 h1 h2
theorem or77 {a0 a1 a2 : Int} (h0 : a0 ≤ 8) (h1 : a1 = 0) (h2 : (((0 : Int) ≤ a1) ∧ (a1 ≤ 3) ∧ ((0 : Int) ≤ a2) ∧ (a2 < a0)) ∨ (((4 : Int) ≤ a1) ∧ (a1 ≤ 6) ∧ (a2 = 0))) : ((0 : Int) ≤ a2) ∧ (a2 ≤ 7) := by omega
theorem or78 {a0 : Int} (h0 : a0 = 0) : ((0 : Int) ≤ a0) ∧ (a0 ≤ 6) := by omega
theorem or79 {a0 : Int} (h0 : (0 : Int) ≤ a0) : (-2147483648 : Int) ≤ 4 * a0 := oz101 h0
theorem or80 {a0 : Int} (h0 : a0 ≤ 40) : 4 * a0 ≤ 2147483647 := oz102 h0
theorem or81 {a0 a1 : Int} (h0 : (0 : Int) ≤ a0) (h1 : a1 = 4 * a0) : (0 : Int) ≤ a1 := oz103 h0 h1
theorem or82 {a0 a1 a2 : Int} (h0 : a0 ≠ a1) (h1 : a0 ≤ 40) (h2 : a2 = 4 * a0) (h3 : a1 = 40) : a2 < 160 := oz104 h0 h1 h2 h3
theorem or83 {a0 a1 a2 a3 : Int} (h0 : a0 ≤ 8) (h1 : a1 = 0) (h2 : (((0 : Int) ≤ a1) ∧ (a1 ≤ 3) ∧ ((0 : Int) ≤ a2) ∧ (a2 < a0)) ∨ (((4 : Int) ≤ a1) ∧ (a1 ≤ 6) ∧ (a2 = 0))) : (a3 % 4) = 0 → (0 : Int) ≤ a2 ∧ a2 ≤ 7 := by omega
theorem or84 {a0 a1 a2 : Int} (h0 : (0 : Int) ≤ a0) (h1 : a1 = 4 * a0) (h2 : a2 = 1) : (-2147483648 : Int) ≤ a1 + a2 := oz106 h0 h1 h2
theorem or85 {a0 a1 a2 : Int} (h0 : a0 ≤ 40) (h1 : a1 = 4 * a0) (h2 : a2 = 1) : a1 + a2 ≤ 2147483647 := oz107 h0 h1 h2
theorem or86 {a0 a1 a2 a3 : Int} (h0 : (0 : Int) ≤ a0) (h1 : a1 = 4 * a0) (h2 : a2 = a1 + a3) (h3 : a3 = 1) : (0 : Int) ≤ a2 := oz108 h0 h1 h2 h3
theorem or87 {a0 a1 a2 a3 a4 : Int} (h0 : a0 ≠ a1) (h1 : a0 ≤ 40) (h2 : a2 = 4 * a0) (h3 : a3 = a2 + a4) (h4 : a1 = 40) (h5 : a4 = 1) : a3 < 160 := oz109 h0 h1 h2 h3 h4 h5
theorem or88 {a0 a1 : Int} (h0 : a0 = 0) : (a1 % 4) = 0 → (0 : Int) ≤ a0 ∧ a0 ≤ 7 := by omega
theorem or89 {a0 a1 : Int} (h0 : a0 = 0) : (a1 % 4) = 1 → (0 : Int) ≤ a0 ∧ a0 ≤ 6 := by omega
theorem or90 {a0 a1 a2 : Int} (h0 : (0 : Int) ≤ a0) (h1 : a1 = 4 * a0) (h2 : a2 = 2) : (-2147483648 : Int) ≤ a1 + a2 := oz112 h0 h1 h2
theorem or91 {a0 a1 a2 : Int} (h0 : a0 ≤ 40) (h1 : a1 = 4 * a0) (h2 : a2 = 2) : a1 + a2 ≤ 2147483647 := oz113 h0 h1 h2
theorem or92 {a0 a1 a2 a3 : Int} (h0 : (0 : Int) ≤ a0) (h1 : a1 = 4 * a0) (h2 : a2 = a1 + a3) (h3 : a3 = 2) : (0 : Int) ≤ a2 := oz114 h0 h1 h2 h3
theorem or93 {a0 a1 a2 a3 a4 : Int} (h0 : a0 ≠ a1) (h1 : a0 ≤ 40) (h2 : a2 = 4 * a0) (h3 : a3 = a2 + a4) (h4 : a1 = 40) (h5 : a4 = 2) : a3 < 160 := oz115 h0 h1 h2 h3 h4 h5
theorem or94 {a0 a1 a2 : Int} (h0 : (0 : Int) ≤ a0) (h1 : a1 = 4 * a0) (h2 : a2 = 3) : (-2147483648 : Int) ≤ a1 + a2 := oz116 h0 h1 h2
theorem or95 {a0 a1 a2 : Int} (h0 : a0 ≤ 40) (h1 : a1 = 4 * a0) (h2 : a2 = 3) : a1 + a2 ≤ 2147483647 := oz117 h0 h1 h2
theorem or96 {a0 a1 a2 a3 : Int} (h0 : (0 : Int) ≤ a0) (h1 : a1 = 4 * a0) (h2 : a2 = a1 + a3) (h3 : a3 = 3) : (0 : Int) ≤ a2 := oz118 h0 h1 h2 h3
theorem or97 {a0 a1 a2 a3 a4 : Int} (h0 : a0 ≠ a1) (h1 : a0 ≤ 40) (h2 : a2 = 4 * a0) (h3 : a3 = a2 + a4) (h4 : a1 = 40) (h5 : a4 = 3) : a3 < 160 := oz119 h0 h1 h2 h3 h4 h5
theorem or98 {a0 a1 : Int} (h0 : (0 : Int) ≤ a0) (h1 : a1 = 1) : (-2147483648 : Int) ≤ a0 + a1 := oz12 h0 h1
theorem or99 {a0 a1 : Int} (h0 : a0 ≤ 40) (h1 : a1 = 1) : a0 + a1 ≤ 2147483647 := oz120 h0 h1
theorem or100 {a0 a1 a2 : Int} (h0 : (0 : Int) ≤ a0) (h1 : a1 = a0 + a2) (h2 : a2 = 1) : (0 : Int) ≤ a1 := oz14 h0 h1 h2
theorem or101 {a0 a1 a2 a3 a4 : Int} (h0 : a0 ≠ a1) (h1 : a0 ≤ 40) (h2 : a2 = 4 * a0) (h3 : a3 = a0 + a4) (h4 : a1 = 40) (h5 : a4 = 1) : a3 ≤ 40 := oz121 h0 h1 h2 h3 h4 h5
theorem or102 {a0 : Int}  : a0 ≤ a0 := oz122
theorem or103 {a0 a1 a2 : Int} (h0 : a0 = 0) (h1 : (((0 : Int) ≤ a0) ∧ (a0 ≤ 3) ∧ ((0 : Int) ≤ a1) ∧ (a1 < a2)) ∨ (((4 : Int) ≤ a0) ∧ (a0 ≤ 6) ∧ (a1 = 0))) : (((0 : Int) ≤ a0) ∧ (a0 ≤ 3) ∧ ((0 : Int) ≤ a1) ∧ (a1 < a2)) ∨ (((4 : Int) ≤ a0) ∧ (a0 ≤ 6) ∧ (a1 = 0)) := ou83 h0 h1
theorem or104 {a0 : Int} (h0 : a0 = 0) : a0 = 0 := oz236 h0
theorem or105 {a0 : Int} (h0 : (0 : Int) ≤ a0) (h1 : a0 ≤ 999) : (0 : Int) ≤ a0 ∧ a0 ≤ 999 := ou84 h0 h1
theorem or106 {a0 a1 a2 : Int} (h0 : a0 ≠ a1) (h1 : a0 = a2) : ¬ (a2 = a1) := ou86 h0 h1
theorem or107 {a0 a1 a2 a3 : Int} (h0 : a0 ≠ a1) (h1 : a0 = a2) (h2 : a0 ≤ 40) (h3 : a3 = 4 * a0) (h4 : a1 = 40) : ¬ (a2 = 40) := by omega
theorem or108 {a0 a1 : Int} (h0 : a0 = 4 * a1) : a0 = 4 * a1 := oz123 h0
theorem or109 {a0 a1 a2 a3 : Int} (h0 : a0 = 4 * a1) (h1 : a2 = a0 + a3) (h2 : a3 = 1) : a2 = 4 * a1 + 1 := oz124 h0 h1 h2
theorem or110 {a0 a1 a2 a3 : Int} (h0 : a0 = 4 * a1) (h1 : a2 = a0 + a3) (h2 : a3 = 2) : a2 = 4 * a1 + 2 := oz125 h0 h1 h2
theorem or111 {a0 a1 a2 a3 : Int} (h0 : a0 = 4 * a1) (h1 : a2 = a0 + a3) (h2 : a3 = 3) : a2 = 4 * a1 + 3 := oz126 h0 h1 h2
theorem or112 {a0 a1 a2 : Int} (h0 : a0 = 0) : a0 = 4 → ((1 : Int) ≤ a1 ∧ a1 ≤ 5) ∧ ((1 : Int) ≤ a2 ∧ a2 ≤ 5) := by omega
theorem or113 {a0 a1 a2 : Int} (h0 : a0 ≠ a1) (h1 : a0 ≤ 40) (h2 : a2 = 4 * a0) (h3 : a1 = 40) : a0 ≤ 39 := oz128 h0 h1 h2 h3
theorem or114 {a0 a1 : Int} (h0 : a0 ≤ a1) (h1 : a1 ≤ 156) (h2 : a0 = 156) : a1 = 156 := oz158 h0 h1 h2
theorem or115 {a0 a1 a2 a3 : Int} (h0 : a0 = a1) (h1 : a2 = a0) (h2 : a1 = 40) (h3 : a3 = 1) : (-2147483648 : Int) ≤ a2 - a3 := oz129 h0 h1 h2 h3
theorem or116 {a0 a1 : Int} (h0 : a0 ≤ 40) (h1 : a1 = 1) : a0 - a1 ≤ 2147483647 := oz130 h0 h1
theorem or117 {a0 a1 a2 a3 a4 : Int} (h0 : a0 = a1) (h1 : a2 = a0) (h2 : a3 = a2 - a4) (h3 : a1 = 40) (h4 : a4 = 1) : (0 : Int) ≤ a3 := oz131 h0 h1 h2 h3 h4
theorem or118 {a0 a1 a2 : Int} (h0 : a0 ≤ 40) (h1 : a1 = a0 - a2) (h2 : a2 = 1) : a1 ≤ 40 := oz132 h0 h1 h2
theorem or119 {a0 a1 a2 : Int} (h0 : (0 : Int) ≤ a0) (h1 : a1 = a0 - a2) (h2 : a2 = 1) : (-2147483648 : Int) ≤ 4 * a1 := oz133 h0 h1 h2
theorem or120 {a0 a1 a2 : Int} (h0 : a0 ≤ 40) (h1 : a1 = a0 - a2) (h2 : a2 = 1) : 4 * a1 ≤ 2147483647 := oz134 h0 h1 h2
theorem or121 {a0 a1 a2 a3 a4 a5 : Int} (h0 : a0 = a1) (h1 : a2 = a0) (h2 : a3 = a2 - a4) (h3 : a5 = 4 * a3) (h4 : a1 = 40) (h5 : a4 = 1) : (0 : Int) ≤ a5 := oz135 h0 h1 h2 h3 h4 h5
theorem or122 {a0 a1 a2 a3 : Int} (h0 : a0 ≤ 40) (h1 : a1 = a0 - a2) (h2 : a3 = 4 * a1) (h3 : a2 = 1) : a3 < 160 := oz136 h0 h1 h2 h3
theorem or123 {a0 a1 a2 a3 a4 a5 : Int} (h0 : a0 = a1) (h1 : a2 = a0) (h2 : a3 = a2 - a4) (h3 : a5 = 4 * a3) (h4 : a1 = 40) (h5 : a4 = 1) : (-2147483648 : Int) ≤ a5 + a4 := oz137 h0 h1 h2 h3 h4 h5
theorem or124 {a0 a1 a2 a3 : Int} (h0 : a0 ≤ 40) (h1 : a1 = a0 - a2) (h2 : a3 = 4 * a1) (h3 : a2 = 1) : a3 + a2 ≤ 2147483647 := oz138 h0 h1 h2 h3
theorem or125 {a0 a1 a2 a3 a4 a5 a6 : Int} (h0 : a0 = a1) (h1 : a2 = a0) (h2 : a3 = a2 - a4) (h3 : a5 = 4 * a3) (h4 : a6 = a5 + a4) (h5 : a1 = 40) (h6 : a4 = 1) : (0 : Int) ≤ a6 := oz139 h0 h1 h2 h3 h4 h5 h6
theorem or126 {a0 a1 a2 a3 a4 : Int} (h0 : a0 ≤ 40) (h1 : a1 = a0 - a2) (h2 : a3 = 4 * a1) (h3 : a4 = a3 + a2) (h4 : a2 = 1) : a4 < 160 := oz140 h0 h1 h2 h3 h4
theorem or127 {a0 a1 a2 a3 a4 a5 a6 a7 : Int} (h0 : a0 = a1) (h1 : a2 = a0) (h2 : a2 ≤ 40) (h3 : a3 = a2 - a4) (h4 : a5 = 4 * a3) (h5 : a6 = a5 + a4) (h6 : a1 = 40) (h7 : a4 = 1) : (a6 % 4) = 0 → (0 : Int) ≤ a7 ∧ a7 ≤ 7 := oz141 h0 h1 h2 h3 h4 h5 h6 h7
theorem or128 {a0 a1 a2 a3 a4 a5 a6 : Int} (h0 : a0 = a1) (h1 : a2 = a0) (h2 : a3 = a2 - a4) (h3 : a5 = 4 * a3) (h4 : a1 = 40) (h5 : a4 = 1) (h6 : a6 = 2) : (-2147483648 : Int) ≤ a5 + a6 := oz142 h0 h1 h2 h3 h4 h5 h6
theorem or129 {a0 a1 a2 a3 a4 : Int} (h0 : a0 ≤ 40) (h1 : a1 = a0 - a2) (h2 : a3 = 4 * a1) (h3 : a2 = 1) (h4 : a4 = 2) : a3 + a4 ≤ 2147483647 := oz143 h0 h1 h2 h3 h4
theorem or130 {a0 a1 a2 a3 a4 a5 a6 a7 : Int} (h0 : a0 = a1) (h1 : a2 = a0) (h2 : a3 = a2 - a4) (h3 : a5 = 4 * a3) (h4 : a6 = a5 + a7) (h5 : a1 = 40) (h6 : a4 = 1) (h7 : a7 = 2) : (0 : Int) ≤ a6 := oz144 h0 h1 h2 h3 h4 h5 h6 h7
theorem or131 {a0 a1 a2 a3 a4 a5 : Int} (h0 : a0 ≤ 40) (h1 : a1 = a0 - a2) (h2 : a3 = 4 * a1) (h3 : a4 = a3 + a5) (h4 : a2 = 1) (h5 : a5 = 2) : a4 < 160 := oz145 h0 h1 h2 h3 h4 h5
theorem or132 {a0 a1 a2 a3 a4 a5 a6 a7 a8 : Int} (h0 : a0 = a1) (h1 : a2 = a0) (h2 : a2 ≤ 40) (h3 : a3 = a2 - a4) (h4 : a5 = 4 * a3) (h5 : a6 = a5 + a7) (h6 : a1 = 40) (h7 : a4 = 1) (h8 : a7 = 2) : (a6 % 4) = 0 → (0 : Int) ≤ a8 ∧ a8 ≤ 7 := oz146 h0 h1 h2 h3 h4 h5 h6 h7 h8
theorem or133 {a0 a1 a2 a3 a4 a5 a6 a7 a8 : Int} (h0 : a0 = a1) (h1 : a2 = a0) (h2 : a2 ≤ 40) (h3 : a3 = a2 - a4) (h4 : a5 = 4 * a3) (h5 : a6 = a5 + a7) (h6 : a1 = 40) (h7 : a4 = 1) (h8 : a7 = 2) : (a6 % 4) = 1 → (0 : Int) ≤ a8 ∧ a8 ≤ 6 := oz147 h0 h1 h2 h3 h4 h5 h6 h7 h8
theorem or134 {a0 a1 a2 a3 a4 a5 a6 : Int} (h0 : a0 = a1) (h1 : a2 = a0) (h2 : a3 = a2 - a4) (h3 : a5 = 4 * a3) (h4 : a1 = 40) (h5 : a4 = 1) (h6 : a6 = 3) : (-2147483648 : Int) ≤ a5 + a6 := oz148 h0 h1 h2 h3 h4 h5 h6
theorem or135 {a0 a1 a2 a3 a4 : Int} (h0 : a0 ≤ 40) (h1 : a1 = a0 - a2) (h2 : a3 = 4 * a1) (h3 : a2 = 1) (h4 : a4 = 3) : a3 + a4 ≤ 2147483647 := oz149 h0 h1 h2 h3 h4
theorem or136 {a0 a1 a2 a3 a4 a5 a6 a7 : Int} (h0 : a0 = a1) (h1 : a2 = a0) (h2 : a3 = a2 - a4) (h3 : a5 = 4 * a3) (h4 : a6 = a5 + a7) (h5 : a1 = 40) (h6 : a4 = 1) (h7 : a7 = 3) : (0 : Int) ≤ a6 := oz150 h0 h1 h2 h3 h4 h5 h6 h7
theorem or137 {a0 a1 a2 a3 a4 a5 : Int} (h0 : a0 ≤ 40) (h1 : a1 = a0 - a2) (h2 : a3 = 4 * a1) (h3 : a4 = a3 + a5) (h4 : a2 = 1) (h5 : a5 = 3) : a4 < 160 := oz151 h0 h1 h2 h3 h4 h5
theorem or138 {a0 a1 a2 a3 a4 a5 a6 a7 a8 : Int} (h0 : a0 = a1) (h1 : a2 = a0) (h2 : a2 ≤ 40) (h3 : a3 = a2 - a4) (h4 : a5 = 4 * a3) (h5 : a6 = a5 + a7) (h6 : a1 = 40) (h7 : a4 = 1) (h8 : a7 = 3) : (a6 % 4) = 0 → (0 : Int) ≤ a8 ∧ a8 ≤ 7 := oz152 h0 h1 h2 h3 h4 h5 h6 h7 h8
theorem or139 {a0 a1 a2 a3 a4 a5 a6 a7 a8 : Int} (h0 : a0 = a1) (h1 : a2 = a0) (h2 : a2 ≤ 40) (h3 : a3 = a2 - a4) (h4 : a5 = 4 * a3) (h5 : a6 = a5 + a7) (h6 : a1 = 40) (h7 : a4 = 1) (h8 : a7 = 3) : (a6 % 4) = 1 → (0 : Int) ≤ a8 ∧ a8 ≤ 6 := oz153 h0 h1 h2 h3 h4 h5 h6 h7 h8
theorem or140 {a0 a1 a2 : Int} (h0 : (0 : Int) ≤ a0) (h1 : a1 = a0 - a2) (h2 : a2 = 1) : (-2147483648 : Int) ≤ a1 + a2 := oz154 h0 h1 h2
theorem or141 {a0 a1 a2 a3 : Int} (h0 : a0 ≤ 40) (h1 : a1 = a0 - a2) (h2 : a3 = 4 * a1) (h3 : a2 = 1) : a1 + a2 ≤ 2147483647 := oz155 h0 h1 h2 h3
theorem or142 {a0 a1 a2 a3 : Int} (h0 : (0 : Int) ≤ a0) (h1 : a1 = a0 - a2) (h2 : a3 = a1 + a2) (h3 : a2 = 1) : (0 : Int) ≤ a3 := oz156 h0 h1 h2 h3
theorem or143 {a0 a1 a2 a3 a4 : Int} (h0 : a0 ≤ 40) (h1 : a1 = a0 - a2) (h2 : a3 = 4 * a1) (h3 : a4 = a1 + a2) (h4 : a2 = 1) : a4 ≤ 40 := oz157 h0 h1 h2 h3 h4
theorem or144 {a0 a1 a2 : Int} (h0 : a0 = a1) (h1 : a0 = a2) (h2 : a2 ≤ 40) (h3 : a1 = 40) : a2 = 40 := by omega
theorem or145 {a0 a1 a2 a3 : Int} (h0 : a0 ≤ 40) (h1 : a1 = a0 - a2) (h2 : a3 = 4 * a1) (h3 : a2 = 1) : a1 ≤ 39 := oz159 h0 h1 h2 h3
theorem or146 {a0 a1 : Int} (h0 : (0 : Int) ≤ a0) (h1 : a1 = 4) : (-2147483648 : Int) ≤ a0 + a1 := oz160 h0 h1
theorem or147 {a0 a1 : Int} (h0 : a0 ≤ 156) (h1 : a1 = 4) : a0 + a1 ≤ 2147483647 := oz161 h0 h1
theorem or148 {a0 a1 a2 : Int} (h0 : (0 : Int) ≤ a0) (h1 : a1 = a0 + a2) (h2 : a2 = 4) : (0 : Int) ≤ a1 := oz162 h0 h1 h2
theorem or149 {a0 a1 a2 a3 : Int} (h0 : a0 < a1) (h1 : a2 = a0 + a3) (h2 : a1 = 156) (h3 : a3 = 4) : a2 < 160 := oz163 h0 h1 h2 h3
theorem or150 {a0 : Int} (h0 : a0 ≤ 156) : a0 < 160 := oz164 h0
theorem or151 {a0 a1 : Int} (h0 : a0 ≤ 156) (h1 : a1 = 1) : a0 + a1 ≤ 2147483647 := oz165 h0 h1
theorem or152 {a0 a1 a2 a3 : Int} (h0 : a0 < a1) (h1 : (0 : Int) ≤ a0) (h2 : a2 = a0 + a3) (h3 : a1 = 156) (h4 : a3 = 1) : ((0 : Int) ≤ a2) ∧ (a2 ≤ 156) := oz166 h0 h1 h2 h3 h4
theorem or153 {a0 a1 : Int} (h0 : a0 < a1) (h1 : a1 = 156) : a0 < 156 := oz167 h0 h1
theorem or154 {a0 a1 a2 : Int} (h0 : a0 = a1 + a2) (h1 : a2 = 4) : a0 = a1 + 4 := oz168 h0 h1
theorem or155 {a0 a1 a2 : Int} (h0 : a0 = a1 + a2) (h1 : a2 = 1) : a0 = a1 + 1 := oz169 h0 h1
theorem or156 {a0 a1 a2 : Int} (h0 : a0 = a1 + a2) (h1 : a2 = 1) : (156 - a0) < (156 - a1) := oz170 h0 h1
theorem or157 {a0 a1 : Int} (h0 : a0 < a1) (h1 : a1 = 156) : (1 : Int) ≤ (156 - a0) := oz171 h0 h1
theorem or158 {a0 : Int} (h0 : a0 = 0) : ((0 : Int) ≤ a0) ∧ (a0 ≤ 156) := oz172 h0
theorem or159 {a0 a1 : Int} (h0 : a0 ≤ a1) : a0 ≤ a1 := oz173 h0
theorem or160 {a0 a1 a2 : Int} (h0 : a0 = a1) (h1 : a0 = a2) : a2 = a1 := ou85 h0 h1
theorem or161 {a0 : Int} (h0 : ¬ (((0 : Int) ≤ a0) ∧ (a0 ≤ 999))) : ¬ ((0 : Int) ≤ a0 ∧ a0 ≤ 999) := ou87 h0
theorem or162 {a0 a1 a2 : Int} (h0 : a0 ≤ a1) (h1 : a1 ≤ a2) (h2 : a0 = 0) (h3 : a2 = 9) : ((0 : Int) ≤ a1) ∧ (a1 ≤ 9) := oa27 h0 h1 h2 h3
theorem or163 {a0 a1 a2 : Int} (h0 : ¬ ((a0 ≤ a1) ∧ (a1 ≤ a2))) (h1 : a0 = 0) (h2 : a2 = 9) : ¬ (((0 : Int) ≤ a1) ∧ (a1 ≤ 9)) := oa28 h0 h1 h2
theorem or164 {a0 a1 a2 : Int} (h0 : a0 ≤ 8) (h1 : a1 = 1) (h2 : (((0 : Int) ≤ a1) ∧ (a1 ≤ 3) ∧ ((0 : Int) ≤ a2) ∧ (a2 < a0)) ∨ (((4 : Int) ≤ a1) ∧ (a1 ≤ 6) ∧ (a2 = 0))) : ((0 : Int) ≤ a2) ∧ (a2 ≤ 7) := by omega
theorem or165 {a0 : Int} (h0 : a0 = 1) : ((0 : Int) ≤ a0) ∧ (a0 ≤ 6) := by omega
theorem or166 {a0 a1 a2 a3 : Int} (h0 : a0 ≤ 8) (h1 : a1 = 1) (h2 : (((0 : Int) ≤ a1) ∧ (a1 ≤ 3) ∧ ((0 : Int) ≤ a2) ∧ (a2 < a0)) ∨ (((4 : Int) ≤ a1) ∧ (a1 ≤ 6) ∧ (a2 = 0))) : (a3 % 4) = 0 → (0 : Int) ≤ a2 ∧ a2 ≤ 7 := by omega
theorem or167 {a0 a1 : Int} (h0 : a0 = 1) : (a1 % 4) = 0 → (0 : Int) ≤ a0 ∧ a0 ≤ 7 := by omega
theorem or168 {a0 a1 : Int} (h0 : a0 = 1) : (a1 % 4) = 1 → (0 : Int) ≤ a0 ∧ a0 ≤ 6 := by omega
theorem or169 {a0 a1 a2 : Int} (h0 : a0 = 1) (h1 : (((0 : Int) ≤ a0) ∧ (a0 ≤ 3) ∧ ((0 : Int) ≤ a1) ∧ (a1 < a2)) ∨ (((4 : Int) ≤ a0) ∧ (a0 ≤ 6) ∧ (a1 = 0))) : (((0 : Int) ≤ a0) ∧ (a0 ≤ 3) ∧ ((0 : Int) ≤ a1) ∧ (a1 < a2)) ∨ (((4 : Int) ≤ a0) ∧ (a0 ≤ 6) ∧ (a1 = 0)) := ou92 h0 h1
theorem or170 {a0 : Int} (h0 : a0 = 1) : a0 = 1 := oz1381 h0
theorem or171 {a0 : Int} (h0 : (0 : Int) ≤ a0) (h1 : a0 ≤ 9) : (0 : Int) ≤ a0 ∧ a0 ≤ 9 := ou93 h0 h1
theorem or172 {a0 a1 a2 : Int} (h0 : a0 = 1) : a0 = 4 → ((1 : Int) ≤ a1 ∧ a1 ≤ 5) ∧ ((1 : Int) ≤ a2 ∧ a2 ≤ 5) := by omega
theorem or173 {a0 a1 a2 a3 a4 a5 a6 a7 : Int} (h0 : a0 = a1) (h1 : a2 = a0) (h2 : a3 = a4 + a5) (h3 : a6 = a2 - a7) (h4 : a4 = 4 * a6) (h5 : a1 = 40) (h6 : a5 = 2) (h7 : a7 = 1) : (0 : Int) ≤ a3 := by omega
theorem or174 {a0 a1 a2 a3 a4 a5 : Int} (h0 : a0 ≤ 40) (h1 : a1 = a2 + a3) (h2 : a4 = a0 - a5) (h3 : a2 = 4 * a4) (h4 : a3 = 2) (h5 : a5 = 1) : a1 < 160 := by omega
theorem or175 {a0 a1 a2 a3 a4 a5 a6 a7 a8 : Int} (h0 : a0 = a1) (h1 : a2 = a0) (h2 : a2 ≤ 40) (h3 : a3 = a4 + a5) (h4 : a6 = a2 - a7) (h5 : a4 = 4 * a6) (h6 : a1 = 40) (h7 : a5 = 2) (h8 : a7 = 1) : (a3 % 4) = 0 → (0 : Int) ≤ a8 ∧ a8 ≤ 7 := by omega
theorem or176 {a0 a1 a2 a3 a4 a5 a6 a7 a8 : Int} (h0 : a0 = a1) (h1 : a2 = a0) (h2 : a2 ≤ 40) (h3 : a3 = a4 + a5) (h4 : a6 = a2 - a7) (h5 : a4 = 4 * a6) (h6 : a1 = 40) (h7 : a5 = 2) (h8 : a7 = 1) : (a3 % 4) = 1 → (0 : Int) ≤ a8 ∧ a8 ≤ 6 := by omega
theorem or177 {a0 a1 a2 a3 a4 a5 a6 a7 : Int} (h0 : a0 = a1) (h1 : a2 = a0) (h2 : a3 = a4 + a5) (h3 : a6 = a2 - a7) (h4 : a4 = 4 * a6) (h5 : a1 = 40) (h6 : a5 = 3) (h7 : a7 = 1) : (0 : Int) ≤ a3 := by omega
theorem or178 {a0 a1 a2 a3 a4 a5 : Int} (h0 : a0 ≤ 40) (h1 : a1 = a2 + a3) (h2 : a4 = a0 - a5) (h3 : a2 = 4 * a4) (h4 : a3 = 3) (h5 : a5 = 1) : a1 < 160 := by omega
theorem or179 {a0 a1 a2 a3 a4 a5 a6 a7 a8 : Int} (h0 : a0 = a1) (h1 : a2 = a0) (h2 : a2 ≤ 40) (h3 : a3 = a4 + a5) (h4 : a6 = a2 - a7) (h5 : a4 = 4 * a6) (h6 : a1 = 40) (h7 : a5 = 3) (h8 : a7 = 1) : (a3 % 4) = 0 → (0 : Int) ≤ a8 ∧ a8 ≤ 7 := by omega
theorem or180 {a0 a1 a2 a3 a4 a5 a6 a7 a8 : Int} (h0 : a0 = a1) (h1 : a2 = a0) (h2 : a2 ≤ 40) (h3 : a3 = a4 + a5) (h4 : a6 = a2 - a7) (h5 : a4 = 4 * a6) (h6 : a1 = 40) (h7 : a5 = 3) (h8 : a7 = 1) : (a3 % 4) = 1 → (0 : Int) ≤ a8 ∧ a8 ≤ 6 := by omega
theorem or181 {a0 a1 a2 a3 : Int} (h0 : (0 : Int) ≤ a0) (h1 : a1 = a2 + a3) (h2 : a2 = a0 - a3) (h3 : a3 = 1) : (0 : Int) ≤ a1 := by omega
theorem or182 {a0 a1 a2 a3 a4 : Int} (h0 : a0 ≤ 40) (h1 : a1 = a2 + a3) (h2 : a2 = a0 - a3) (h3 : a4 = 4 * a2) (h4 : a3 = 1) : a1 ≤ 40 := by omega
theorem or183 {a0 a1 a2 a3 : Int} (h0 : a0 = a1 + a2) (h1 : a1 = 4 * a3) (h2 : a2 = 2) : a0 = 4 * a3 + 2 := by omega
theorem or184 {a0 a1 a2 a3 : Int} (h0 : a0 = a1 + a2) (h1 : a1 = 4 * a3) (h2 : a2 = 3) : a0 = 4 * a3 + 3 := by omega
theorem or185 {a0 : Int} (h0 : ¬ (((0 : Int) ≤ a0) ∧ (a0 ≤ 9))) : ¬ ((0 : Int) ≤ a0 ∧ a0 ≤ 9) := ou94 h0
theorem or186 {a0 a1 a2 : Int} (h0 : a0 ≤ 8) (h1 : a1 = 2) (h2 : (((0 : Int) ≤ a1) ∧ (a1 ≤ 3) ∧ ((0 : Int) ≤ a2) ∧ (a2 < a0)) ∨ (((4 : Int) ≤ a1) ∧ (a1 ≤ 6) ∧ (a2 = 0))) : ((0 : Int) ≤ a2) ∧ (a2 ≤ 7) := by omega
theorem or187 {a0 : Int} (h0 : a0 = 2) : ((0 : Int) ≤ a0) ∧ (a0 ≤ 6) := by omega
theorem or188 {a0 a1 a2 a3 : Int} (h0 : a0 ≤ 8) (h1 : a1 = 2) (h2 : (((0 : Int) ≤ a1) ∧ (a1 ≤ 3) ∧ ((0 : Int) ≤ a2) ∧ (a2 < a0)) ∨ (((4 : Int) ≤ a1) ∧ (a1 ≤ 6) ∧ (a2 = 0))) : (a3 % 4) = 0 → (0 : Int) ≤ a2 ∧ a2 ≤ 7 := by omega
theorem or189 {a0 a1 : Int} (h0 : a0 = 2) : (a1 % 4) = 0 → (0 : Int) ≤ a0 ∧ a0 ≤ 7 := by omega
theorem or190 {a0 a1 : Int} (h0 : a0 = 2) : (a1 % 4) = 1 → (0 : Int) ≤ a0 ∧ a0 ≤ 6 := by omega
theorem or191 {a0 a1 a2 : Int} (h0 : a0 = 2) (h1 : (((0 : Int) ≤ a0) ∧ (a0 ≤ 3) ∧ ((0 : Int) ≤ a1) ∧ (a1 < a2)) ∨ (((4 : Int) ≤ a0) ∧ (a0 ≤ 6) ∧ (a1 = 0))) : (((0 : Int) ≤ a0) ∧ (a0 ≤ 3) ∧ ((0 : Int) ≤ a1) ∧ (a1 < a2)) ∨ (((4 : Int) ≤ a0) ∧ (a0 ≤ 6) ∧ (a1 = 0)) := ou98 h0 h1
theorem or192 {a0 : Int} (h0 : a0 = 2) : a0 = 2 := oz1411 h0
theorem or193 {a0 a1 a2 : Int} (h0 : a0 = 2) : a0 = 4 → ((1 : Int) ≤ a1 ∧ a1 ≤ 5) ∧ ((1 : Int) ≤ a2 ∧ a2 ≤ 5) := by omega
theorem or194 {a0 a1 a2 : Int} (h0 : a0 ≤ a1) (h1 : a1 ≤ a2) (h2 : a0 = 0) (h3 : a2 = 1) : ((0 : Int) ≤ a1) ∧ (a1 ≤ 1) := ou101 h0 h1 h2 h3
theorem or195 {a0 a1 a2 : Int} (h0 : ¬ ((a0 ≤ a1) ∧ (a1 ≤ a2))) (h1 : a0 = 0) (h2 : a2 = 1) : ¬ (((0 : Int) ≤ a1) ∧ (a1 ≤ 1)) := ou102 h0 h1 h2
theorem or196 {a0 a1 a2 : Int} (h0 : a0 ≤ 8) (h1 : a1 = 3) (h2 : (((0 : Int) ≤ a1) ∧ (a1 ≤ 3) ∧ ((0 : Int) ≤ a2) ∧ (a2 < a0)) ∨ (((4 : Int) ≤ a1) ∧ (a1 ≤ 6) ∧ (a2 = 0))) : ((0 : Int) ≤ a2) ∧ (a2 ≤ 7) := by omega
theorem or197 {a0 : Int} (h0 : a0 = 3) : ((0 : Int) ≤ a0) ∧ (a0 ≤ 6) := by omega
theorem or198 {a0 a1 a2 a3 : Int} (h0 : a0 ≤ 8) (h1 : a1 = 3) (h2 : (((0 : Int) ≤ a1) ∧ (a1 ≤ 3) ∧ ((0 : Int) ≤ a2) ∧ (a2 < a0)) ∨ (((4 : Int) ≤ a1) ∧ (a1 ≤ 6) ∧ (a2 = 0))) : (a3 % 4) = 0 → (0 : Int) ≤ a2 ∧ a2 ≤ 7 := by omega
theorem or199 {a0 a1 : Int} (h0 : a0 = 3) : (a1 % 4) = 0 → (0 : Int) ≤ a0 ∧ a0 ≤ 7 := by omega
theorem or200 {a0 a1 : Int} (h0 : a0 = 3) : (a1 % 4) = 1 → (0 : Int) ≤ a0 ∧ a0 ≤ 6 := by omega
theorem or201 {a0 a1 : Int} (h0 : (0 : Int) ≤ a0) (h1 : a0 ≤ 1) : (a1 % 4) = 0 → (0 : Int) ≤ a0 ∧ a0 ≤ 7 := by omega
theorem or202 {a0 a1 : Int} (h0 : (0 : Int) ≤ a0) (h1 : a0 ≤ 1) : (a1 % 4) = 1 → (0 : Int) ≤ a0 ∧ a0 ≤ 6 := by omega
theorem or203 {a0 a1 a2 : Int} (h0 : a0 = 3) (h1 : (((0 : Int) ≤ a0) ∧ (a0 ≤ 3) ∧ ((0 : Int) ≤ a1) ∧ (a1 < a2)) ∨ (((4 : Int) ≤ a0) ∧ (a0 ≤ 6) ∧ (a1 = 0))) : (((0 : Int) ≤ a0) ∧ (a0 ≤ 3) ∧ ((0 : Int) ≤ a1) ∧ (a1 < a2)) ∨ (((4 : Int) ≤ a0) ∧ (a0 ≤ 6) ∧ (a1 = 0)) := ou104 h0 h1
theorem or204 {a0 : Int} (h0 : a0 = 3) : a0 = 3 := oz1421 h0
theorem or205 {a0 : Int} (h0 : (0 : Int) ≤ a0) (h1 : a0 ≤ 1) : (0 : Int) ≤ a0 ∧ a0 ≤ 1 := ou106 h0 h1
theorem or206 {a0 a1 a2 : Int} (h0 : a0 = 3) : a0 = 4 → ((1 : Int) ≤ a1 ∧ a1 ≤ 5) ∧ ((1 : Int) ≤ a2 ∧ a2 ≤ 5) := by omega
theorem or207 {a0 : Int} (h0 : ¬ (((0 : Int) ≤ a0) ∧ (a0 ≤ 1))) : ¬ ((0 : Int) ≤ a0 ∧ a0 ≤ 1) := ou107 h0
theorem or208 {a0 a1 a2 : Int} (h0 : a0 ≤ a1) (h1 : a1 ≤ a2) (h2 : a0 = 1) (h3 : a2 = 5) : ((1 : Int) ≤ a1) ∧ (a1 ≤ 5) := oz1227 h0 h1 h2 h3
theorem or209 {a0 a1 a2 : Int} (h0 : ¬ ((a0 ≤ a1) ∧ (a1 ≤ a2))) (h1 : a0 = 1) (h2 : a2 = 5) : ¬ (((1 : Int) ≤ a1) ∧ (a1 ≤ 5)) := ou111 h0 h1 h2
theorem or210 {a0 a1 a2 : Int} (h0 : a0 = 4) (h1 : (((0 : Int) ≤ a0) ∧ (a0 ≤ 3) ∧ ((0 : Int) ≤ a1) ∧ (a1 < a2)) ∨ (((4 : Int) ≤ a0) ∧ (a0 ≤ 6) ∧ (a1 = 0))) : ((0 : Int) ≤ a1) ∧ (a1 ≤ 7) := by omega
theorem or211 {a0 : Int} (h0 : a0 = 4) : ((0 : Int) ≤ a0) ∧ (a0 ≤ 6) := by omega
theorem or212 {a0 a1 a2 a3 : Int} (h0 : a0 = 4) (h1 : (((0 : Int) ≤ a0) ∧ (a0 ≤ 3) ∧ ((0 : Int) ≤ a1) ∧ (a1 < a2)) ∨ (((4 : Int) ≤ a0) ∧ (a0 ≤ 6) ∧ (a1 = 0))) : (a3 % 4) = 0 → (0 : Int) ≤ a1 ∧ a1 ≤ 7 := by omega
theorem or213 {a0 a1 a2 a3 : Int} (h0 : a0 = 4) (h1 : (((0 : Int) ≤ a0) ∧ (a0 ≤ 3) ∧ ((0 : Int) ≤ a1) ∧ (a1 < a2)) ∨ (((4 : Int) ≤ a0) ∧ (a0 ≤ 6) ∧ (a1 = 0))) : (a3 % 4) = 1 → (0 : Int) ≤ a1 ∧ a1 ≤ 6 := by omega
theorem or214 {a0 a1 : Int} (h0 : a0 = 4) : (a1 % 4) = 0 → (0 : Int) ≤ a0 ∧ a0 ≤ 7 := by omega
theorem or215 {a0 a1 : Int} (h0 : a0 = 4) : (a1 % 4) = 1 → (0 : Int) ≤ a0 ∧ a0 ≤ 6 := by omega
theorem or216 {a0 a1 a2 : Int} (h0 : a0 = 4) (h1 : ((a0 = 4) → (((1 : Int) ≤ a1) ∧ (a1 ≤ 5)))) : (a2 % 4) = 0 → (0 : Int) ≤ a1 ∧ a1 ≤ 7 := by omega
theorem or217 {a0 a1 a2 : Int} (h0 : a0 = 4) (h1 : ((a0 = 4) → (((1 : Int) ≤ a1) ∧ (a1 ≤ 5)))) : (a2 % 4) = 1 → (0 : Int) ≤ a1 ∧ a1 ≤ 6 := by omega
theorem or218 {a0 a1 : Int} (h0 : (1 : Int) ≤ a0) (h1 : a0 ≤ 5) : (a1 % 4) = 0 → (0 : Int) ≤ a0 ∧ a0 ≤ 7 := by omega
theorem or219 {a0 a1 : Int} (h0 : (1 : Int) ≤ a0) (h1 : a0 ≤ 5) : (a1 % 4) = 1 → (0 : Int) ≤ a0 ∧ a0 ≤ 6 := by omega
theorem or220 {a0 a1 a2 : Int} (h0 : a0 = 4) (h1 : (((0 : Int) ≤ a0) ∧ (a0 ≤ 3) ∧ ((0 : Int) ≤ a1) ∧ (a1 < a2)) ∨ (((4 : Int) ≤ a0) ∧ (a0 ≤ 6) ∧ (a1 = 0))) : (((0 : Int) ≤ a0) ∧ (a0 ≤ 3) ∧ ((0 : Int) ≤ a1) ∧ (a1 < a2)) ∨ (((4 : Int) ≤ a0) ∧ (a0 ≤ 6) ∧ (a1 = 0)) := ou113 h0 h1
theorem or221 {a0 : Int} (h0 : (1 : Int) ≤ a0) (h1 : a0 ≤ 5) : (1 : Int) ≤ a0 ∧ a0 ≤ 5 := ou114 h0 h1
theorem or222 {a0 a1 a2 : Int} (h0 : a0 = 4) (h1 : (1 : Int) ≤ a1) (h2 : a1 ≤ 5) (h3 : ((a0 = 4) → (((1 : Int) ≤ a2) ∧ (a2 ≤ 5)))) : a0 = 4 → ((1 : Int) ≤ a2 ∧ a2 ≤ 5) ∧ ((1 : Int) ≤ a1 ∧ a1 ≤ 5) := by omega
theorem or223 {a0 : Int} (h0 : ¬ (((1 : Int) ≤ a0) ∧ (a0 ≤ 5))) : ¬ ((1 : Int) ≤ a0 ∧ a0 ≤ 5) := ou115 h0
theorem or224 {a0 a1 a2 : Int} (h0 : a0 = 5) (h1 : (((0 : Int) ≤ a0) ∧ (a0 ≤ 3) ∧ ((0 : Int) ≤ a1) ∧ (a1 < a2)) ∨ (((4 : Int) ≤ a0) ∧ (a0 ≤ 6) ∧ (a1 = 0))) : ((0 : Int) ≤ a1) ∧ (a1 ≤ 7) := by omega
theorem or225 {a0 : Int} (h0 : a0 = 5) : ((0 : Int) ≤ a0) ∧ (a0 ≤ 6) := by omega
theorem or226 {a0 a1 a2 a3 : Int} (h0 : a0 = 5) (h1 : (((0 : Int) ≤ a0) ∧ (a0 ≤ 3) ∧ ((0 : Int) ≤ a1) ∧ (a1 < a2)) ∨ (((4 : Int) ≤ a0) ∧ (a0 ≤ 6) ∧ (a1 = 0))) : (a3 % 4) = 0 → (0 : Int) ≤ a1 ∧ a1 ≤ 7 := by omega
theorem or227 {a0 a1 a2 a3 : Int} (h0 : a0 = 5) (h1 : (((0 : Int) ≤ a0) ∧ (a0 ≤ 3) ∧ ((0 : Int) ≤ a1) ∧ (a1 < a2)) ∨ (((4 : Int) ≤ a0) ∧ (a0 ≤ 6) ∧ (a1 = 0))) : (a3 % 4) = 1 → (0 : Int) ≤ a1 ∧ a1 ≤ 6 := by omega
theorem or228 {a0 a1 : Int} (h0 : a0 = 5) : (a1 % 4) = 0 → (0 : Int) ≤ a0 ∧ a0 ≤ 7 := by omega
theorem or229 {a0 a1 : Int} (h0 : a0 = 5) : (a1 % 4) = 1 → (0 : Int) ≤ a0 ∧ a0 ≤ 6 := by omega
theorem or230 {a0 a1 a2 : Int} (h0 : a0 = 5) (h1 : (((0 : Int) ≤ a0) ∧ (a0 ≤ 3) ∧ ((0 : Int) ≤ a1) ∧ (a1 < a2)) ∨ (((4 : Int) ≤ a0) ∧ (a0 ≤ 6) ∧ (a1 = 0))) : (((0 : Int) ≤ a0) ∧ (a0 ≤ 3) ∧ ((0 : Int) ≤ a1) ∧ (a1 < a2)) ∨ (((4 : Int) ≤ a0) ∧ (a0 ≤ 6) ∧ (a1 = 0)) := ou119 h0 h1
theorem or231 {a0 a1 a2 : Int} (h0 : a0 = 5) : a0 = 4 → ((1 : Int) ≤ a1 ∧ a1 ≤ 5) ∧ ((1 : Int) ≤ a2 ∧ a2 ≤ 5) := by omega
theorem or232 {a0 a1 a2 : Int} (h0 : a0 ≤ a1) (h1 : a1 ≤ a2) (h2 : a0 = 0) (h3 : a2 = 99) : ((0 : Int) ≤ a1) ∧ (a1 ≤ 99) := ou122 h0 h1 h2 h3
theorem or233 {a0 a1 a2 : Int} (h0 : ¬ ((a0 ≤ a1) ∧ (a1 ≤ a2))) (h1 : a0 = 0) (h2 : a2 = 99) : ¬ (((0 : Int) ≤ a1) ∧ (a1 ≤ 99)) := ou123 h0 h1 h2
theorem or234 {a0 a1 a2 : Int} (h0 : a0 = 6) (h1 : (((0 : Int) ≤ a0) ∧ (a0 ≤ 3) ∧ ((0 : Int) ≤ a1) ∧ (a1 < a2)) ∨ (((4 : Int) ≤ a0) ∧ (a0 ≤ 6) ∧ (a1 = 0))) : ((0 : Int) ≤ a1) ∧ (a1 ≤ 7) := by omega
theorem or235 {a0 : Int} (h0 : a0 = 6) : ((0 : Int) ≤ a0) ∧ (a0 ≤ 6) := by omega
theorem or236 {a0 a1 a2 a3 : Int} (h0 : a0 = 6) (h1 : (((0 : Int) ≤ a0) ∧ (a0 ≤ 3) ∧ ((0 : Int) ≤ a1) ∧ (a1 < a2)) ∨ (((4 : Int) ≤ a0) ∧ (a0 ≤ 6) ∧ (a1 = 0))) : (a3 % 4) = 0 → (0 : Int) ≤ a1 ∧ a1 ≤ 7 := by omega
theorem or237 {a0 a1 a2 a3 : Int} (h0 : a0 = 6) (h1 : (((0 : Int) ≤ a0) ∧ (a0 ≤ 3) ∧ ((0 : Int) ≤ a1) ∧ (a1 < a2)) ∨ (((4 : Int) ≤ a0) ∧ (a0 ≤ 6) ∧ (a1 = 0))) : (a3 % 4) = 1 → (0 : Int) ≤ a1 ∧ a1 ≤ 6 := by omega
theorem or238 {a0 a1 : Int} (h0 : a0 = 6) : (a1 % 4) = 0 → (0 : Int) ≤ a0 ∧ a0 ≤ 7 := by omega
theorem or239 {a0 a1 : Int} (h0 : a0 = 6) : (a1 % 4) = 1 → (0 : Int) ≤ a0 ∧ a0 ≤ 6 := by omega
theorem or240 {a0 a1 a2 : Int} (h0 : a0 = 6) (h1 : (((0 : Int) ≤ a0) ∧ (a0 ≤ 3) ∧ ((0 : Int) ≤ a1) ∧ (a1 < a2)) ∨ (((4 : Int) ≤ a0) ∧ (a0 ≤ 6) ∧ (a1 = 0))) : (((0 : Int) ≤ a0) ∧ (a0 ≤ 3) ∧ ((0 : Int) ≤ a1) ∧ (a1 < a2)) ∨ (((4 : Int) ≤ a0) ∧ (a0 ≤ 6) ∧ (a1 = 0)) := ou125 h0 h1
theorem or241 {a0 : Int} (h0 : a0 = 6) : a0 = 6 := oz1484 h0
theorem or242 {a0 : Int} (h0 : (0 : Int) ≤ a0) (h1 : a0 ≤ 99) : (0 : Int) ≤ a0 ∧ a0 ≤ 99 := ou126 h0 h1
theorem or243 {a0 a1 a2 : Int} (h0 : a0 = 6) : a0 = 4 → ((1 : Int) ≤ a1 ∧ a1 ≤ 5) ∧ ((1 : Int) ≤ a2 ∧ a2 ≤ 5) := by omega
theorem or244 {a0 : Int} (h0 : ¬ (((0 : Int) ≤ a0) ∧ (a0 ≤ 99))) : ¬ ((0 : Int) ≤ a0 ∧ a0 ≤ 99) := ou127 h0
theorem or245 {a0 a1 a2 : Int} (h0 : ¬ (a0 = 2)) (h1 : ¬ (a0 = 3)) (h2 : ¬ (a0 = 4)) (h3 : ¬ (a0 = 5)) (h4 : ¬ (a0 = 0)) (h5 : ¬ (a0 = 6)) (h6 : ¬ (a0 = 1)) (h7 : (((0 : Int) ≤ a0) ∧ (a0 ≤ 3) ∧ ((0 : Int) ≤ a1) ∧ (a1 < a2)) ∨ (((4 : Int) ≤ a0) ∧ (a0 ≤ 6) ∧ (a1 = 0))) : False := by omega
theorem or246 {a0 a1 a2 a3 : Int} (h0 : a0 ≠ a1) (h1 : (0 : Int) ≤ a0) (h2 : a2 = a0 - a3) (h3 : a1 = 0) (h4 : a3 = 1) : (0 : Int) ≤ a2 := oz174 h0 h1 h2 h3 h4
theorem or247 {a0 a1 a2 a3 a4 : Int} (h0 : a0 ≠ a1) (h1 : (0 : Int) ≤ a0) (h2 : a2 = a0 - a3) (h3 : a4 = 4 * a2) (h4 : a1 = 0) (h5 : a3 = 1) : (0 : Int) ≤ a4 := oz175 h0 h1 h2 h3 h4 h5
theorem or248 {a0 a1 a2 a3 a4 : Int} (h0 : a0 ≠ a1) (h1 : (0 : Int) ≤ a0) (h2 : a2 = a0 - a3) (h3 : a4 = 4 * a2) (h4 : a1 = 0) (h5 : a3 = 1) : (-2147483648 : Int) ≤ a4 + a3 := oz176 h0 h1 h2 h3 h4 h5
theorem or249 {a0 a1 a2 a3 a4 a5 : Int} (h0 : a0 ≠ a1) (h1 : (0 : Int) ≤ a0) (h2 : a2 = a0 - a3) (h3 : a4 = 4 * a2) (h4 : a5 = a4 + a3) (h5 : a1 = 0) (h6 : a3 = 1) : (0 : Int) ≤ a5 := oz177 h0 h1 h2 h3 h4 h5 h6
theorem or250 {a0 a1 a2 a3 a4 a5 : Int} (h0 : a0 ≠ a1) (h1 : (0 : Int) ≤ a0) (h2 : a2 = a0 - a3) (h3 : a4 = 4 * a2) (h4 : a1 = 0) (h5 : a3 = 1) (h6 : a5 = 2) : (-2147483648 : Int) ≤ a4 + a5 := oz178 h0 h1 h2 h3 h4 h5 h6
theorem or251 {a0 a1 a2 a3 a4 a5 a6 : Int} (h0 : a0 ≠ a1) (h1 : (0 : Int) ≤ a0) (h2 : a2 = a0 - a3) (h3 : a4 = 4 * a2) (h4 : a5 = a4 + a6) (h5 : a1 = 0) (h6 : a3 = 1) (h7 : a6 = 2) : (0 : Int) ≤ a5 := oz179 h0 h1 h2 h3 h4 h5 h6 h7
theorem or252 {a0 a1 a2 a3 a4 : Int} (h0 : a0 ≠ a1) (h1 : (0 : Int) ≤ a0) (h2 : a2 = a0 - a3) (h3 : a4 = 4 * a2) (h4 : a1 = 0) (h5 : a3 = 1) : (0 : Int) ≤ a2 := oz180 h0 h1 h2 h3 h4 h5
theorem or253 {a0 : Int} (h0 : (0 : Int) ≤ a0) (h1 : a0 ≤ 7) : ((0 : Int) ≤ a0) ∧ (a0 ≤ 7) := oz181 h0 h1
theorem or254 {a0 : Int} (h0 : (0 : Int) ≤ a0) (h1 : a0 ≤ 6) : ((0 : Int) ≤ a0) ∧ (a0 ≤ 6) := oz182 h0 h1
theorem or255 {a0 a1 : Int} (h0 : (a0 = 4 → (1 : Int) ≤ a1 ∧ a1 ≤ 5)) : ((a0 = 4) → (((1 : Int) ≤ a1) ∧ (a1 ≤ 5))) := oz183 h0
theorem or256 {a0 a1 a2 a3 a4 a5 : Int} (h0 : a0 = a1) (h1 : a2 = a3) (h2 : a4 ≤ a1) (h3 : a3 = a4 - a5) (h4 : a5 = 1) : a2 ≤ a0 := oz184 h0 h1 h2 h3 h4
theorem or257 {a0 a1 a2 a3 a4 : Int} (h0 : a0 ≠ a1) (h1 : (0 : Int) ≤ a0) (h2 : a2 = a0 - a3) (h3 : a4 = 4 * a2) (h4 : a1 = 0) (h5 : a3 = 1) : ¬ (a0 = 0) := by omega
theorem or258 {a0 a1 : Int} (h0 : a0 = a1) (h1 : (0 : Int) ≤ a0) (h2 : a1 = 0) : a0 = 0 := od48 h0 h1 h2
theorem or259 {a0 a1 a2 : Int} (h0 : a0 ≠ a1) (h1 : a1 ≤ 40) (h2 : a0 ≤ a1) (h3 : a2 = 4 * a0) : a2 < 160 := oz185 h0 h1 h2 h3
theorem or260 {a0 a1 a2 a3 a4 : Int} (h0 : a0 ≠ a1) (h1 : a1 ≤ 40) (h2 : a0 ≤ a1) (h3 : a2 = 4 * a0) (h4 : a3 = a2 + a4) (h5 : a4 = 1) : a3 < 160 := oz186 h0 h1 h2 h3 h4 h5
theorem or261 {a0 a1 a2 a3 a4 : Int} (h0 : a0 ≠ a1) (h1 : a1 ≤ 40) (h2 : a0 ≤ a1) (h3 : a2 = 4 * a0) (h4 : a3 = a2 + a4) (h5 : a4 = 3) : a3 < 160 := oz187 h0 h1 h2 h3 h4 h5
theorem or262 {a0 a1 a2 a3 a4 a5 : Int} (h0 : a0 ≠ a1) (h1 : a2 = a0) (h2 : a1 ≤ 40) (h3 : a0 ≤ a1) (h4 : a3 = a2 + a4) (h5 : a5 = 4 * a0) (h6 : a4 = 1) : a3 ≤ 40 := oz188 h0 h1 h2 h3 h4 h5 h6
theorem or263 {a0 a1 a2 a3 : Int} (h0 : (0 : Int) ≤ a0) (h1 : a1 ≤ 40) (h2 : a2 = a1 + a3) (h3 : a3 = 1) : (-2147483648 : Int) ≤ a0 - a2 := oz189 h0 h1 h2 h3
theorem or264 {a0 a1 a2 a3 : Int} (h0 : a0 ≤ 40) (h1 : (0 : Int) ≤ a1) (h2 : a2 = a1 + a3) (h3 : a3 = 1) : a0 - a2 ≤ 2147483647 := oz190 h0 h1 h2 h3
theorem or265 {a0 a1 a2 a3 a4 a5 : Int} (h0 : a0 ≠ a1) (h1 : a2 = a1) (h2 : a3 = a0) (h3 : a0 ≤ a1) (h4 : a4 = a3 + a5) (h5 : a5 = 1) : a4 ≤ a2 := oz191 h0 h1 h2 h3 h4 h5
theorem or266 {a0 a1 : Int} (h0 : a0 ≠ a1) (h1 : a0 ≤ a1) : ¬ (a0 = a1) := by omega
theorem or267 {a0 a1 : Int} (h0 : a0 = a1) (h1 : a0 ≤ a1) : a0 = a1 := by omega
theorem or268 {a0 : Int} (h0 : a0 = 1) : (0 : Int) ≤ a0 := oz246 h0
theorem or269 {a0 : Int} (h0 : a0 = 1) : a0 ≤ 1 := oz558 h0
theorem or270 {a0 : Int} (h0 : a0 ≤ 8) : a0 ≤ 8 := oz559 h0
theorem or271 {a0 a1 : Int} (h0 : a0 ≤ a1) (h1 : a0 = 31) : 31 ≤ a1 := of0 h0 h1
theorem or272 {a0 a1 : Int} (h0 : a0 = 0) (h1 : (0 : Int) ≤ a1) : (-2147483648 : Int) ≤ a0 + a1 := oz226 h0 h1
theorem or273 {a0 a1 a2 : Int} (h0 : a0 < a1) (h1 : a2 = 0) (h2 : a1 = 31) : a2 + a0 ≤ 2147483647 := oz227 h0 h1 h2
theorem or274 {a0 a1 : Int} (h0 : a0 < a1) (h1 : a1 = 31) : a0 < 31 := oz228 h0 h1
theorem or275 {a0 a1 a2 : Int} (h0 : a0 = 0) (h1 : (0 : Int) ≤ a1) (h2 : a2 = a0 + a1) : (0 : Int) ≤ a2 := oz229 h0 h1 h2
theorem or276 {a0 a1 a2 a3 : Int} (h0 : a0 < a1) (h1 : a2 = 0) (h2 : a3 = a2 + a0) (h3 : a1 = 31) : a3 < 31 := oz230 h0 h1 h2 h3
theorem or277 {a0 a1 a2 a3 : Int} (h0 : a0 = 0) (h1 : (a1 = 18 → (0 : Int) ≤ a2 ∧ a2 ≤ 5)) (h2 : a3 = a0 + a1) : a3 = 18 → (0 : Int) ≤ a2 ∧ a2 ≤ 5 := oz231 h0 h1 h2
theorem or278 {a0 a1 a2 a3 : Int} (h0 : a0 = 0) (h1 : (19 ≤ a1 → a1 ≤ 24 → (0 : Int) ≤ a2 ∧ a2 ≤ 7)) (h2 : a3 = a0 + a1) : 19 ≤ a3 → a3 ≤ 24 → (0 : Int) ≤ a2 ∧ a2 ≤ 7 := oz232 h0 h1 h2
theorem or279 {a0 a1 a2 : Int} (h0 : a0 < a1) (h1 : a1 = 31) (h2 : a2 = 1) : a0 + a2 ≤ 2147483647 := oz233 h0 h1 h2
theorem or280 {a0 a1 a2 : Int} (h0 : a0 = 0) (h1 : a1 = a0 + a2) : a1 = ((0 : Nat) : Int) + a2 := of12 h0 h1
theorem or281 {a0 : Int}  : a0 = a0 := oz34
theorem or282 {a0 a1 a2 : Int} (h0 : a0 = a1 + a2) (h1 : a2 = 1) : (31 - a0) < (31 - a1) := oz234 h0 h1
theorem or283 {a0 a1 : Int} (h0 : a0 < a1) (h1 : a1 = 31) : (1 : Int) ≤ (31 - a0) := oz235 h0 h1
theorem or284 {a0 : Int} (h0 : a0 = 0) : (0 : Int) ≤ a0 := oz46 h0
theorem or285 {a0 a1 : Int} (h0 : a0 ≤ a1) (h1 : a0 = 5) : ((5 : Nat) : Int) ≤ a1 := by omega
theorem or286 {a0 : Int} (h0 : a0 = 0) : a0 < 5 := oz547 h0
theorem or287 {a0 a1 : Int} (h0 : a0 < a1) (h1 : a1 = 5) : a0 < 5 := oz560 h0 h1
theorem or288 {a0 a1 a2 : Int} (h0 : a0 < a1) (h1 : a1 = 5) (h2 : a2 = 1) : a0 + a2 ≤ 2147483647 := oz561 h0 h1 h2
theorem or289 {a0 a1 : Int} (h0 : a0 < a1) (h1 : a1 = 5) : a0 < ((5 : Nat) : Int) := by omega
theorem or290 {a0 a1 a2 : Int} (h0 : a0 = a1 + a2) (h1 : a2 = 1) : (5 - a0) < (5 - a1) := oz372 h0 h1
theorem or291 {a0 a1 : Int} (h0 : a0 < a1) (h1 : a1 = 5) : (1 : Int) ≤ (5 - a0) := oz562 h0 h1
theorem or292 {a0 a1 : Int} (h0 : a0 ≠ a1) (h1 : (0 : Int) ≤ a0) (h2 : a1 = 0) : ¬ (a0 = 0) := od60 h0 h1 h2
theorem or293 {a0 a1 : Int} (h0 : (0 : Int) ≤ a0) (h1 : a1 = 10) : (-2147483648 : Int) ≤ a1 + a0 := oz251 h0 h1
theorem or294 {a0 a1 : Int} (h0 : a0 ≤ 8) (h1 : a1 = 10) : a1 + a0 ≤ 2147483647 := oz563 h0 h1
theorem or295 {a0 a1 a2 a3 a4 : Int} (h0 : a0 < a1) (h1 : a2 ≤ 8) (h2 : a1 = a3 + a2) (h3 : a3 = 10) : a0 = 18 → (0 : Int) ≤ a4 ∧ a4 ≤ 5 := oz564 h0 h1 h2 h3
theorem or296 {a0 a1 a2 a3 a4 : Int} (h0 : a0 < a1) (h1 : a2 ≤ 8) (h2 : a1 = a3 + a2) (h3 : a3 = 10) : 19 ≤ a0 → a0 ≤ 24 → (0 : Int) ≤ a4 ∧ a4 ≤ 7 := oz565 h0 h1 h2 h3
theorem or297 {a0 a1 a2 a3 a4 a5 : Int} (h0 : a0 ≤ a1) (h1 : a1 < a2) (h2 : a3 = a4) (h3 : a2 = a5 + a3) (h4 : a0 = 8) (h5 : a5 = 10) : ¬ ((a1 < 8 ∧ a4 ≤ a1) ∨ (10 + a4 ≤ a1 ∧ a1 < 18)) := by omega
theorem or298 {a0 a1 : Int} (h0 : a0 ≤ a1) (h1 : a0 = 18) : (0 : Int) ≤ a1 := oz566 h0 h1
theorem or299 {a0 a1 a2 : Int} (h0 : a0 ≤ a1) (h1 : (a1 = 18 → (0 : Int) ≤ a2 ∧ a2 ≤ 5)) (h2 : a0 = 18) : a1 = 18 → (0 : Int) ≤ a2 ∧ a2 ≤ 5 := oz567 h0 h1 h2
theorem or300 {a0 a1 : Int} (h0 : (19 ≤ a0 → a0 ≤ 24 → (0 : Int) ≤ a1 ∧ a1 ≤ 7)) : 19 ≤ a0 → a0 ≤ 24 → (0 : Int) ≤ a1 ∧ a1 ≤ 7 := oz568 h0
theorem or301 {a0 a1 a2 : Int} (h0 : a0 ≤ a1) (h1 : a0 = 18) (h2 : a2 = 1) : (-2147483648 : Int) ≤ a1 + a2 := oz569 h0 h1 h2
theorem or302 {a0 a1 a2 a3 : Int} (h0 : a0 ≤ a1) (h1 : a2 = a1 + a3) (h2 : a0 = 18) (h3 : a3 = 1) : (0 : Int) ≤ a2 := oz570 h0 h1 h2 h3
theorem or303 {a0 a1 a2 : Int} (h0 : a0 ≤ a1) (h1 : a0 = 18) : ¬ ((a1 < 8 ∧ a2 ≤ a1) ∨ (10 + a2 ≤ a1 ∧ a1 < 18)) := by omega
theorem or304 {a0 a1 a2 a3 a4 : Int} (h0 : a0 ≤ a1) (h1 : (0 : Int) ≤ a2) (h2 : a0 = a3 + a2) (h3 : a3 = 10) (h4 : a4 = 1) : (-2147483648 : Int) ≤ a1 + a4 := oz571 h0 h1 h2 h3 h4
theorem or305 {a0 a1 a2 a3 a4 a5 : Int} (h0 : a0 ≤ a1) (h1 : (0 : Int) ≤ a2) (h2 : a0 = a3 + a2) (h3 : a4 = a1 + a5) (h4 : a3 = 10) (h5 : a5 = 1) : (0 : Int) ≤ a4 := oz572 h0 h1 h2 h3 h4 h5
theorem or306 {a0 a1 a2 a3 : Int} (h0 : a0 ≤ a1) (h1 : (0 : Int) ≤ a2) (h2 : a0 = a3 + a2) (h3 : a3 = 10) : (0 : Int) ≤ a1 := by omega
theorem or307 {a0 a1 a2 a3 a4 a5 : Int} (h0 : a0 ≤ a1) (h1 : a1 < a2) (h2 : a3 = a4) (h3 : a0 = a5 + a3) (h4 : a2 = 18) (h5 : a5 = 10) : (a1 < 8 ∧ a4 ≤ a1) ∨ (10 + a4 ≤ a1 ∧ a1 < 18) := by omega
theorem or308 {a0 a1 a2 a3 : Int} (h0 : a0 < a1) (h1 : a2 ≤ a0) (h2 : a2 = a3) (h3 : a1 = 8) : (a0 < 8 ∧ a3 ≤ a0) ∨ (10 + a3 ≤ a0 ∧ a0 < 18) := by omega
theorem or309 {a0 a1 a2 : Int} (h0 : a0 < a1) (h1 : a1 = 8) : a0 = 18 → (0 : Int) ≤ a2 ∧ a2 ≤ 5 := oz573 h0 h1
theorem or310 {a0 a1 a2 : Int} (h0 : a0 < a1) (h1 : a1 = 8) : 19 ≤ a0 → a0 ≤ 24 → (0 : Int) ≤ a2 ∧ a2 ≤ 7 := oz574 h0 h1
theorem or311 {a0 a1 a2 : Int} (h0 : a0 < a1) (h1 : a1 = a2) : ¬ ((a0 < 8 ∧ a2 ≤ a0) ∨ (10 + a2 ≤ a0 ∧ a0 < 18)) := by omega
theorem or312 {a0 a1 a2 a3 : Int} (h0 : a0 < a1) (h1 : a2 ≤ a0) (h2 : a2 = a3 + a1) (h3 : a3 = 10) : False := oz575 h0 h1 h2 h3
theorem or313 {a0 a1 : Int} (h0 : a0 = a1) (h1 : (0 : Int) ≤ a0) (h2 : a1 = 0) : ¬ (a0 ≠ 0) := by omega
theorem or314 {a0 a1 a2 a3 : Int} (h0 : a0 < a1) (h1 : a1 = 0) : ¬ (((0 : Int) ≤ a0) ∧ ((0 : Int) ≤ a2) ∧ (a2 ≤ 1) ∧ (a3 ≤ a0)) := by omega
theorem or315 {a0 a1 a2 a3 : Int} (h0 : a0 < a1) (h1 : a1 = 0) : ¬ (((0 : Int) ≤ a0) ∧ ((0 : Int) ≤ a2) ∧ (a2 ≤ 1) ∧ (a2 = 0) ∧ (a0 < a3)) := by omega
theorem or316 {a0 a1 a2 a3 : Int} (h0 : a0 < a1) (h1 : a1 = 0) : ¬ (((0 : Int) ≤ a0) ∧ ((0 : Int) ≤ a2) ∧ (a2 ≤ 1) ∧ (a2 = 1) ∧ (a0 < a3)) := by omega
theorem or317 {a0 a1 : Int} (h0 : a0 ≤ a1) (h1 : a0 = 0) : (0 : Int) ≤ a1 := oz389 h0 h1
theorem or318 {a0 a1 : Int} (h0 : a0 < a1) (h1 : a1 ≤ 5) : a0 < 5 := oz988 h0 h1
theorem or319 {a0 a1 a2 a3 : Int} (h0 : a0 ≤ a1) (h1 : a0 ≤ a2) (h2 : a2 ≤ a3) (h3 : a0 = 0) (h4 : a3 = 1) : ((0 : Int) ≤ a1) ∧ ((0 : Int) ≤ a2) ∧ (a2 ≤ 1) := by omega
theorem or320 {a0 a1 a2 : Int} (h0 : a0 < a1) : ¬ (((0 : Int) ≤ a0) ∧ ((0 : Int) ≤ a2) ∧ (a2 ≤ 1) ∧ (a1 ≤ a0)) := by omega
theorem or321 {a0 a1 a2 a3 : Int} (h0 : a0 ≠ a1) (h1 : a1 ≤ a0) (h2 : a1 = 0) : ¬ (((0 : Int) ≤ a2) ∧ ((0 : Int) ≤ a0) ∧ (a0 ≤ 1) ∧ (a0 = 0) ∧ (a2 < a3)) := by omega
theorem or322 {a0 a1 a2 a3 : Int} (h0 : a0 = a1) (h1 : a1 = 0) : ¬ (((0 : Int) ≤ a2) ∧ ((0 : Int) ≤ a0) ∧ (a0 ≤ 1) ∧ (a0 = 1) ∧ (a2 < a3)) := by omega
theorem or323 {a0 a1 a2 : Int} (h0 : a0 ≤ a1) : ¬ (((0 : Int) ≤ a1) ∧ ((0 : Int) ≤ a2) ∧ (a2 ≤ 1) ∧ (a2 = 0) ∧ (a1 < a0)) := by omega
theorem or324 {a0 a1 a2 : Int} (h0 : a0 ≤ a1) : ¬ (((0 : Int) ≤ a1) ∧ ((0 : Int) ≤ a2) ∧ (a2 ≤ 1) ∧ (a2 = 1) ∧ (a1 < a0)) := by omega
theorem or325 {a0 a1 a2 a3 a4 : Int} (h0 : ¬ ((a0 ≤ a1) ∧ (a1 ≤ a2))) (h1 : a0 = 0) (h2 : a2 = 1) : ¬ (((0 : Int) ≤ a3) ∧ ((0 : Int) ≤ a1) ∧ (a1 ≤ 1) ∧ (a4 ≤ a3)) := by omega
theorem or326 {a0 a1 a2 a3 a4 : Int} (h0 : ¬ ((a0 ≤ a1) ∧ (a1 ≤ a2))) (h1 : a0 = 0) (h2 : a2 = 1) : ¬ (((0 : Int) ≤ a3) ∧ ((0 : Int) ≤ a1) ∧ (a1 ≤ 1) ∧ (a1 = 0) ∧ (a3 < a4)) := by omega
theorem or327 {a0 a1 a2 a3 a4 : Int} (h0 : ¬ ((a0 ≤ a1) ∧ (a1 ≤ a2))) (h1 : a0 = 0) (h2 : a2 = 1) : ¬ (((0 : Int) ≤ a3) ∧ ((0 : Int) ≤ a1) ∧ (a1 ≤ 1) ∧ (a1 = 1) ∧ (a3 < a4)) := by omega
theorem or328 {a0 : Int} (h0 : a0 = 18) : (0 : Int) ≤ a0 := oz195 h0
theorem or329 {a0 : Int} (h0 : a0 = 18) : a0 < 31 := oz196 h0
theorem or330 {a0 a1 : Int} (h0 : a0 ≤ a1) (h1 : a0 = 0) : (-2147483648 : Int) ≤ 6 * a1 := oz197 h0 h1
theorem or331 {a0 a1 : Int} (h0 : a0 ≤ a1) (h1 : a1 = 1) : 6 * a0 ≤ 2147483647 := oz198 h0 h1
theorem or332 {a0 a1 a2 a3 : Int} (h0 : a0 = 6 * a1) (h1 : a2 ≤ a1) (h2 : a2 = 0) (h3 : a3 = 19) : (-2147483648 : Int) ≤ a3 + a0 := oz199 h0 h1 h2 h3
theorem or333 {a0 a1 a2 a3 : Int} (h0 : a0 = 6 * a1) (h1 : a1 ≤ a2) (h2 : a2 = 1) (h3 : a3 = 19) : a3 + a0 ≤ 2147483647 := oz200 h0 h1 h2 h3
theorem or334 {a0 a1 a2 a3 a4 a5 : Int} (h0 : a0 ≤ a1) (h1 : a2 = 6 * a3) (h2 : a4 = a5 + a2) (h3 : a0 ≤ a3) (h4 : a0 = 0) (h5 : a5 = 19) : (-2147483648 : Int) ≤ a4 + a1 := oz201 h0 h1 h2 h3 h4 h5
theorem or335 {a0 a1 a2 a3 a4 a5 a6 : Int} (h0 : a0 < a1) (h1 : a1 ≤ 5) (h2 : a2 = 6 * a3) (h3 : a4 = a5 + a2) (h4 : a3 ≤ a6) (h5 : a5 = 19) (h6 : a6 = 1) : a4 + a0 ≤ 2147483647 := oz202 h0 h1 h2 h3 h4 h5 h6
theorem or336 {a0 a1 a2 a3 a4 a5 a6 : Int} (h0 : a0 ≤ a1) (h1 : a2 = a3 + a1) (h2 : a4 = 6 * a5) (h3 : a3 = a6 + a4) (h4 : a0 ≤ a5) (h5 : a0 = 0) (h6 : a6 = 19) : (0 : Int) ≤ a2 := by omega
theorem or337 {a0 a1 a2 a3 a4 a5 a6 a7 : Int} (h0 : a0 < a1) (h1 : a1 ≤ 5) (h2 : a2 = a3 + a0) (h3 : a4 = 6 * a5) (h4 : a3 = a6 + a4) (h5 : a5 ≤ a7) (h6 : a6 = 19) (h7 : a7 = 1) : a2 < 31 := by omega
theorem or338 {a0 a1 : Int} (h0 : a0 ≤ a1) (h1 : a1 = 4) : a0 < 5 := oz557 h0 h1
theorem or339 {a0 a1 a2 : Int} (h0 : a0 ≤ a1) (h1 : a1 ≤ a2) (h2 : a0 = 0) (h3 : a2 = 4) : ((0 : Int) ≤ a1) ∧ (a1 ≤ 4) := oz600 h0 h1 h2 h3
theorem or340 {a0 a1 a2 : Int} (h0 : ¬ ((a0 ≤ a1) ∧ (a1 ≤ a2))) (h1 : a0 = 0) (h2 : a2 = 4) : ¬ (((0 : Int) ≤ a1) ∧ (a1 ≤ 4)) := oz601 h0 h1 h2
theorem or372 {a0 a1 a2 a3 : Int} (h0 : a0 ≤ a1) (h1 : a2 = a3 ∨ a2 = a0) (h2 : a1 = 8) (h3 : a3 = 0) : a3 + a2 ≤ 8 := oz1017 h0 h1 h2 h3
theorem or373 {a0 : Int} (h0 : a0 = 5) : (0 : Int) ≤ a0 := oz264 h0
theorem or374 {a0 a1 : Int} (h0 : a0 = 0) (h1 : a1 = 5) : a0 + a1 ≤ 5 := oz1018 h0 h1
theorem or375 {a0 : Int} (h0 : a0 ≤ 5) : a0 ≤ 5 := oz527 h0
theorem or391 {a0 : Int} (h0 : a0 = 2) : (0 : Int) ≤ a0 := oz256 h0
theorem or558 {a0 a1 : Int} (h0 : a0 ≤ 8) (h1 : (0 : Int) ≤ a1) (h2 : a1 < a0) : ((0 : Int) ≤ a1) ∧ (a1 ≤ 7) := oz423 h0 h1 h2
theorem or559 {a0 : Int} (h0 : a0 = 1) : a0 < 5 := oz548 h0
theorem or560 {a0 : Int} (h0 : a0 = 2) : a0 < 5 := oz549 h0
theorem or561 {a0 a1 a2 a3 : Int} (h0 : a0 = a1) (h1 : ((a0 = 1) ∧ (¬ ((a2 = 1) ∧ (a3 = 0)))) ∨ ((a0 = 0) ∧ (a2 = 1) ∧ (a3 = 0))) (h2 : a1 = 0) : (a2 = 1) ∧ (a3 = 0) := by omega
theorem or562 {a0 a1 a2 a3 a4 a5 : Int} (h0 : a0 = a1) (h1 : ((a0 = 1) ∧ (¬ ((a2 = 1) ∧ (a3 = 0)))) ∨ ((a0 = 0) ∧ (a2 = 1) ∧ (a3 = 0))) (h2 : a1 = 0) : ¬ (((0 : Int) ≤ a4) ∧ (a4 < a5) ∧ (¬ ((a2 = 1) ∧ (a3 = 0)))) := by omega
theorem or563 {a0 a1 : Int} (h0 : (0 : Int) ≤ a0) (h1 : a0 < a1) : ((0 : Int) ≤ a0) ∧ (a0 < a1) := oz967 h0 h1
theorem or564 {a0 a1 a2 a3 : Int} (h0 : a0 ≠ a1) (h1 : ((a0 = 1) ∧ (¬ ((a2 = 1) ∧ (a3 = 0)))) ∨ ((a0 = 0) ∧ (a2 = 1) ∧ (a3 = 0))) (h2 : a1 = 0) : ¬ ((a2 = 1) ∧ (a3 = 0)) := by omega
theorem or565 {a0 a1 a2 a3 a4 a5 : Int} (h0 : a0 ≠ a1) (h1 : ((a0 = 1) ∧ (¬ ((a2 = 1) ∧ (a3 = 0)))) ∨ ((a0 = 0) ∧ (a2 = 1) ∧ (a3 = 0))) (h2 : a1 = 0) : ¬ (((0 : Int) ≤ a4) ∧ (a4 < a5) ∧ (a2 = 1) ∧ (a3 = 0)) := by omega
theorem or566 {a0 a1 a2 a3 : Int} (h0 : ¬ (((0 : Int) ≤ a0) ∧ (a0 < a1))) : ¬ (((0 : Int) ≤ a0) ∧ (a0 < a1) ∧ (¬ ((a2 = 1) ∧ (a3 = 0)))) := by omega
theorem or567 {a0 a1 a2 a3 : Int} (h0 : ¬ (((0 : Int) ≤ a0) ∧ (a0 < a1))) : ¬ (((0 : Int) ≤ a0) ∧ (a0 < a1) ∧ (a2 = 1) ∧ (a3 = 0)) := by omega
theorem or717 {a0 a1 a2 a3 : Int} (h0 : ¬ (((0 : Int) ≤ a0) ∧ (a0 < a1))) : ¬ (((0 : Int) ≤ a0) ∧ (a0 < a1) ∧ (¬ ((a2 = 0) ∧ (a3 = 1)))) := oi189 h0
theorem or718 {a0 : Int} (h0 : (1 : Int) ≤ a0) (h1 : a0 ≤ 5) : ((1 : Int) ≤ a0) ∧ (a0 ≤ 5) := by omega
theorem or719 {a0 a1 a2 a3 : Int} (h0 : ¬ ((a0 = 0) ∧ (a1 = 1))) (h1 : (0 : Int) ≤ a2) (h2 : a2 < a3) : ((0 : Int) ≤ a2) ∧ (a2 < a3) ∧ (¬ ((a0 = 0) ∧ (a1 = 1))) := by omega
theorem or720 {a0 a1 a2 a3 : Int} (h0 : ¬ (((0 : Int) ≤ a0) ∧ (a0 < a1) ∧ (¬ ((a2 = 0) ∧ (a3 = 1))))) (h1 : (0 : Int) ≤ a0) (h2 : a0 < a1) : ¬ (((0 : Int) ≤ a0) ∧ (a0 < a1) ∧ (¬ ((a2 = 0) ∧ (a3 = 1)))) := by omega
theorem or721 {a0 a1 a2 a3 : Int} (h0 : a0 = 0) (h1 : a1 = 1) : ¬ (((0 : Int) ≤ a2) ∧ (a2 < a3) ∧ (¬ ((a0 = 0) ∧ (a1 = 1)))) := by omega
theorem or722 {a0 a1 a2 a3 : Int} (h0 : ¬ (((0 : Int) ≤ a0) ∧ (a0 < a1))) : ¬ (((0 : Int) ≤ a0) ∧ (a0 < a1) ∧ (a2 = 0) ∧ (a3 = 1)) := by omega
set_option maxRecDepth 100000 in
theorem ke140_116 {i : Nat → Int32} {a : Nat → List Int32} {q : Nat → List Int64} {r : Nat → Nat} (hI : kI i a q) (hr : kr r) (x1 : Int32) (x2 : Int32) (hp0 : ((0 : Int) ≤ x1.toInt) ∧ (x1.toInt ≤ 7)) (hp1 : ((0 : Int) ≤ x2.toInt) ∧ (x2.toInt ≤ 6)) : km 1 140 [.ref 116, .int x1, .int x2] (ks i a q r) (kPI (ks i a q r) (fun v => (((x2.toInt = 4) → (((1 : Int) ≤ v.toInt) ∧ (v.toInt ≤ 5)))) ∧ v = rGet x1 x2 (a 118, a 117, i 7426, i 7427))) := by
  have hG := kG_self kW0 hI hr
  refine km_ofPI (q := (mi_h140, mi_c140)) rfl (by decide) (Nat.le_of_ble_eq_true rfl) ?_
  intro P hP
  refine ft_goL mi_k140 1 1 [(0, .ref 116), (1, .int x1), (2, .int x2)] [.int x2] (by rfl) ?_
  by_cases w1 : x2.toInt = 0
  ·
    refine ft_swx mi_k140 (pc := 1) (v := 0) (t := 44) (kj_eq w1 (by decide) : x2 = 0) (by decide +kernel) ?_
    refine ft_goS mi_k140 3 49 [.int x1, .ref 118] (by rfl) ?_
    refine ko_iald3 mi_k140.1 (n := 31) (c := 31) (ax := (0, 0, 0, 0, 0)) (mi_k140.2 _ _ (by rfl)) (by rfl) (ksG118 _ _ _ _) (hG.I.2.1 118) rfl (or0 hp0.1) (or1 hp0.2) ?_
    have r2 : ((x1.toInt = 18 → (0 : Int) ≤ ((a 118).getD x1.toNatClampNeg 0).toInt ∧ ((a 118).getD x1.toNatClampNeg 0).toInt ≤ 5)) ∧ ((19 ≤ x1.toInt → x1.toInt ≤ 24 → (0 : Int) ≤ ((a 118).getD x1.toNatClampNeg 0).toInt ∧ ((a 118).getD x1.toNatClampNeg 0).toInt ≤ 7)) := kE_ncond (p := 118) hG.I (by decide) (j := x1) (or0 hp0.1)
    have bw3 : x2.toInt = 0 := (or3 hp1.1 w1)
    exact ft_ret mi_k140 (by rfl) (hP ((a 118).getD x1.toNatClampNeg 0) ⟨(or2 w1), (show ((a 118).getD x1.toNatClampNeg 0) = rGet x1 x2 (a 118, a 117, i 7426, i 7427) from (by unfold rGet; simp only [if_pos bw3]; first | done | rfl | (simp only [sMn, sMx]; done) | (simp only [sMn, sMx]; rfl)))⟩)
  by_cases w4 : x2.toInt = 1
  ·
    refine ko_eq (x1 := (1, [(0, .ref 116), (1, .int x1), (2, .int x2)], [.int 1], (0, 0), ks i a q r)) (by rw [(kj_eq w4 (by decide) : x2 = 1)]) ?_
    have s5 : (8 * x2).toInt = 8 * x2.toInt := kd_cmul 8 kor8 (or4 w4) (or5 hp1.2)
    have s6 : ((8 * x2) - 8).toInt = (8 * x2).toInt - (8 : Int32).toInt := kd_sub (or6 s5 w4 kor8) (or7 hp1.2 s5 kor8)
    have s7 : (((8 * x2) - 8) + x1).toInt = ((8 * x2) - 8).toInt + x1.toInt := kd_add (or8 hp0.1 hp1.1 s5 s6 kor8) (or9 hp0.2 hp1.2 s5 s6 kor8)
    refine ft_goS mi_k140 10 82 [.int (((8 * x2) - 8) + x1), .ref 117] (by rfl) ?_
    refine ko_iald3 mi_k140.1 (n := 24) (c := 24) (ax := (0, 0, 0, 0, 0)) (mi_k140.2 _ _ (by rfl)) (by rfl) (ksG117 _ _ _ _) (hG.I.2.1 117) rfl (or10 hp0.1 s5 s6 s7 w4 kor8) (or11 hp0.2 s5 s6 s7 w4 kor8) ?_
    have bw8 : ¬ (x2.toInt = 0) := (or13 w4)
    have bw9 : ¬ (x2.toInt = 4) := (or14 w4)
    have bw10 : ¬ (x2.toInt = 5) := (or15 w4)
    have bw11 : ¬ (x2.toInt = 6) := (or16 w4)
    exact ft_ret mi_k140 (by rfl) (hP ((a 117).getD (((8 * x2) - 8) + x1).toNatClampNeg 0) ⟨(or12 w4), (show ((a 117).getD (((8 * x2) - 8) + x1).toNatClampNeg 0) = rGet x1 x2 (a 118, a 117, i 7426, i 7427) from (by unfold rGet; simp only [if_neg bw8, if_neg bw9, if_neg bw10, if_neg bw11]; first | done | rfl | (simp only [sMn, sMx]; done) | (simp only [sMn, sMx]; rfl)))⟩)
  by_cases w12 : x2.toInt = 2
  ·
    refine ko_eq (x1 := (1, [(0, .ref 116), (1, .int x1), (2, .int x2)], [.int 2], (0, 0), ks i a q r)) (by rw [(kj_eq w12 (by decide) : x2 = 2)]) ?_
    have s13 : (8 * x2).toInt = 8 * x2.toInt := kd_cmul 8 kor8 (or17 w12) (or5 hp1.2)
    have s14 : ((8 * x2) - 8).toInt = (8 * x2).toInt - (8 : Int32).toInt := kd_sub (or18 s13 w12 kor8) (or7 hp1.2 s13 kor8)
    have s15 : (((8 * x2) - 8) + x1).toInt = ((8 * x2) - 8).toInt + x1.toInt := kd_add (or19 hp0.1 s13 s14 w12 kor8) (or9 hp0.2 hp1.2 s13 s14 kor8)
    refine ft_goS mi_k140 10 82 [.int (((8 * x2) - 8) + x1), .ref 117] (by rfl) ?_
    refine ko_iald3 mi_k140.1 (n := 24) (c := 24) (ax := (0, 0, 0, 0, 0)) (mi_k140.2 _ _ (by rfl)) (by rfl) (ksG117 _ _ _ _) (hG.I.2.1 117) rfl (or20 hp0.1 s13 s14 s15 w12 kor8) (or21 hp0.2 s13 s14 s15 w12 kor8) ?_
    have bw16 : ¬ (x2.toInt = 0) := (or23 w12)
    have bw17 : ¬ (x2.toInt = 4) := (or24 w12)
    have bw18 : ¬ (x2.toInt = 5) := (or25 w12)
    have bw19 : ¬ (x2.toInt = 6) := (or26 w12)
    exact ft_ret mi_k140 (by rfl) (hP ((a 117).getD (((8 * x2) - 8) + x1).toNatClampNeg 0) ⟨(or22 w12), (show ((a 117).getD (((8 * x2) - 8) + x1).toNatClampNeg 0) = rGet x1 x2 (a 118, a 117, i 7426, i 7427) from (by unfold rGet; simp only [if_neg bw16, if_neg bw17, if_neg bw18, if_neg bw19]; first | done | rfl | (simp only [sMn, sMx]; done) | (simp only [sMn, sMx]; rfl)))⟩)
  by_cases w20 : x2.toInt = 3
  ·
    refine ko_eq (x1 := (1, [(0, .ref 116), (1, .int x1), (2, .int x2)], [.int 3], (0, 0), ks i a q r)) (by rw [(kj_eq w20 (by decide) : x2 = 3)]) ?_
    have s21 : (8 * x2).toInt = 8 * x2.toInt := kd_cmul 8 kor8 (or27 w20) (or5 hp1.2)
    have s22 : ((8 * x2) - 8).toInt = (8 * x2).toInt - (8 : Int32).toInt := kd_sub (or28 s21 w20 kor8) (or7 hp1.2 s21 kor8)
    have s23 : (((8 * x2) - 8) + x1).toInt = ((8 * x2) - 8).toInt + x1.toInt := kd_add (or29 hp0.1 s21 s22 w20 kor8) (or9 hp0.2 hp1.2 s21 s22 kor8)
    refine ft_goS mi_k140 10 82 [.int (((8 * x2) - 8) + x1), .ref 117] (by rfl) ?_
    refine ko_iald3 mi_k140.1 (n := 24) (c := 24) (ax := (0, 0, 0, 0, 0)) (mi_k140.2 _ _ (by rfl)) (by rfl) (ksG117 _ _ _ _) (hG.I.2.1 117) rfl (or30 hp0.1 s21 s22 s23 w20 kor8) (or31 hp0.2 s21 s22 s23 w20 kor8) ?_
    have bw24 : ¬ (x2.toInt = 0) := (or33 w20)
    have bw25 : ¬ (x2.toInt = 4) := (or34 w20)
    have bw26 : ¬ (x2.toInt = 5) := (or35 w20)
    have bw27 : ¬ (x2.toInt = 6) := (or36 w20)
    exact ft_ret mi_k140 (by rfl) (hP ((a 117).getD (((8 * x2) - 8) + x1).toNatClampNeg 0) ⟨(or32 w20), (show ((a 117).getD (((8 * x2) - 8) + x1).toNatClampNeg 0) = rGet x1 x2 (a 118, a 117, i 7426, i 7427) from (by unfold rGet; simp only [if_neg bw24, if_neg bw25, if_neg bw26, if_neg bw27]; first | done | rfl | (simp only [sMn, sMx]; done) | (simp only [sMn, sMx]; rfl)))⟩)
  by_cases w28 : x2.toInt = 4
  ·
    refine ko_eq (x1 := (1, [(0, .ref 116), (1, .int x1), (2, .int x2)], [.int 4], (0, 0), ks i a q r)) (by rw [(kj_eq w28 (by decide) : x2 = 4)]) ?_
    have fi_7426 : ((1 : Int) ≤ (i 7426).toInt) ∧ ((i 7426).toInt ≤ 5) := hG.I.1 7426
    refine ft_goS mi_k140 3 55 [.int (i 7426)] (by rfl) ?_
    have bw29 : ¬ (x2.toInt = 0) := (or38 w28)
    have bw30 : x2.toInt = 4 := (or39 w28)
    exact ft_ret mi_k140 (by rfl) (hP (i 7426) ⟨(or37 fi_7426.1 fi_7426.2), (show (i 7426) = rGet x1 x2 (a 118, a 117, i 7426, i 7427) from (by unfold rGet; simp only [if_neg bw29, if_pos bw30]; first | done | rfl | (simp only [sMn, sMx]; done) | (simp only [sMn, sMx]; rfl)))⟩)
  by_cases w31 : x2.toInt = 5
  ·
    refine ft_swx mi_k140 (pc := 1) (v := 5) (t := 56) (kj_eq w31 (by decide) : x2 = 5) (by decide +kernel) ?_
    refine ft_goS mi_k140 2 60 [.int (i 7427)] (by rfl) ?_
    have bw32 : ¬ (x2.toInt = 0) := (or41 w31)
    have bw33 : ¬ (x2.toInt = 4) := (or42 w31)
    have bw34 : x2.toInt = 5 := (or43 w31)
    exact ft_ret mi_k140 (by rfl) (hP (i 7427) ⟨(or40 w31), (show (i 7427) = rGet x1 x2 (a 118, a 117, i 7426, i 7427) from (by unfold rGet; simp only [if_neg bw32, if_neg bw33, if_pos bw34]; first | done | rfl | (simp only [sMn, sMx]; done) | (simp only [sMn, sMx]; rfl)))⟩)
  by_cases w35 : x2.toInt = 6
  ·
    refine ft_swx mi_k140 (pc := 1) (v := 6) (t := 61) (kj_eq w35 (by decide) : x2 = 6) (by decide +kernel) ?_
    refine ft_goS mi_k140 3 67 [.int 8, .ref 118] (by rfl) ?_
    refine ko_iald3 mi_k140.1 (n := 31) (c := 31) (ax := (0, 0, 0, 0, 0)) (mi_k140.2 _ _ (by rfl)) (by rfl) (ksG118 _ _ _ _) (hG.I.2.1 118) rfl (or44 kor8) (or45 kor8) ?_
    have bw36 : ¬ (x2.toInt = 0) := (or47 w35)
    have bw37 : ¬ (x2.toInt = 4) := (or48 w35)
    have bw38 : ¬ (x2.toInt = 5) := (or49 w35)
    have bw39 : x2.toInt = 6 := (or50 hp1.2 w35)
    exact ft_ret mi_k140 (by rfl) (hP ((a 118).getD (8 : Int32).toNatClampNeg 0) ⟨(or46 w35), (show ((a 118).getD (8 : Int32).toNatClampNeg 0) = rGet x1 x2 (a 118, a 117, i 7426, i 7427) from (by unfold rGet; simp only [if_neg bw36, if_neg bw37, if_neg bw38, if_pos bw39]; first | done | rfl | (simp only [sMn, sMx]; done) | (simp only [sMn, sMx]; rfl)))⟩)
  exact (or51 hp1.1 hp1.2 w1 w12 w20 w28 w31 w35 w4).elim
noncomputable def yw141_116 : kW := ([7426, 7427], [117, 118], [], [])
set_option maxRecDepth 100000 in
theorem ke141_116 {i : Nat → Int32} {a : Nat → List Int32} {q : Nat → List Int64} {r : Nat → Nat} (hI : kI i a q) (hr : kr r) (x1 : Int32) (x2 : Int32) (x3 : Int32) (hp0 : ((0 : Int) ≤ x1.toInt) ∧ (x1.toInt ≤ 7)) (hp1 : ((0 : Int) ≤ x2.toInt) ∧ (x2.toInt ≤ 6)) (hp2 : ((x2.toInt = 4) → (((1 : Int) ≤ x3.toInt) ∧ (x3.toInt ≤ 5)))) : km 1 141 [.ref 116, .int x1, .int x2, .int x3] (ks i a q r) (kVN yw141_116 i a q r (fun i1 a1 q1 r1 => (True) ∧ (a1 118 = (rSet x1 x2 x3 (a 118, a 117, i 7426, i 7427)).1 ∧ a1 117 = (rSet x1 x2 x3 (a 118, a 117, i 7426, i 7427)).2.1 ∧ i1 7426 = (rSet x1 x2 x3 (a 118, a 117, i 7426, i 7427)).2.2.1 ∧ i1 7427 = (rSet x1 x2 x3 (a 118, a 117, i 7426, i 7427)).2.2.2))) := by
  have hG := kG_self yw141_116 hI hr
  refine km_ofN (q := (mi_h141, mi_c141)) rfl (by decide) (Nat.le_of_ble_eq_true rfl) ?_
  intro P hP
  refine ft_goL mi_k141 1 1 [(0, .ref 116), (1, .int x1), (2, .int x2), (3, .int x3)] [.int x2] (by rfl) ?_
  by_cases w1 : x2.toInt = 0
  ·
    refine ft_swx mi_k141 (pc := 1) (v := 0) (t := 44) (kj_eq w1 (by decide) : x2 = 0) (by decide +kernel) ?_
    refine ft_goS mi_k141 4 50 [.int x3, .int x1, .ref 118] (by rfl) ?_
    refine ko_iast3 mi_k141.1 (n := 31) (c := 31) (ax := (0, 0, 0, 0, 0)) (mi_k141.2 _ _ (by rfl)) (by rfl) (ksG118 _ _ _ _) (ksA118 _ _ _ _) (hG.I.2.1 118) rfl (or0 hp0.1) (or1 hp0.2) ?_
    intro a2 ea2 fa2
    have hJ2 := kG_a3 hG 118 rfl ea2 fa2 (kE_nset (p := 118) (by decide) (or0 hp0.1) (or52 hp0.2) (or53 hp0.2))
    first | refine ft_goS mi_k141 1 96 [] (by rfl) ?_
    have bw3 : x2.toInt = 0 := (or3 hp1.1 w1)
    exact ft_ret mi_k141 (by rfl) (hP  _ _ _ _ hJ2 ⟨trivial, ⟨(show a2 118 = (rSet x1 x2 x3 (a 118, a 117, i 7426, i 7427)).1 from (by unfold rSet; simp only [if_pos bw3]; first | done | rfl | (simp only [ea2, sMn, sMx]; done) | (simp only [ea2, sMn, sMx]; rfl))), (show a2 117 = (rSet x1 x2 x3 (a 118, a 117, i 7426, i 7427)).2.1 from (by unfold rSet; simp only [if_pos bw3]; first | done | rfl | (simp only [fa2 117 (by decide), sMn, sMx]; done) | (simp only [fa2 117 (by decide), sMn, sMx]; rfl))), (show i 7426 = (rSet x1 x2 x3 (a 118, a 117, i 7426, i 7427)).2.2.1 from (by unfold rSet; simp only [if_pos bw3]; first | done | rfl | (simp only [sMn, sMx]; done) | (simp only [sMn, sMx]; rfl))), (show i 7427 = (rSet x1 x2 x3 (a 118, a 117, i 7426, i 7427)).2.2.2 from (by unfold rSet; simp only [if_pos bw3]; first | done | rfl | (simp only [sMn, sMx]; done) | (simp only [sMn, sMx]; rfl)))⟩⟩)
  by_cases w4 : x2.toInt = 1
  ·
    refine ko_eq (x1 := (1, [(0, .ref 116), (1, .int x1), (2, .int x2), (3, .int x3)], [.int 1], (0, 0), ks i a q r)) (by rw [(kj_eq w4 (by decide) : x2 = 1)]) ?_
    have s5 : (8 * x2).toInt = 8 * x2.toInt := kd_cmul 8 kor8 (or4 w4) (or5 hp1.2)
    have s6 : ((8 * x2) - 8).toInt = (8 * x2).toInt - (8 : Int32).toInt := kd_sub (or6 s5 w4 kor8) (or7 hp1.2 s5 kor8)
    have s7 : (((8 * x2) - 8) + x1).toInt = ((8 * x2) - 8).toInt + x1.toInt := kd_add (or8 hp0.1 hp1.1 s5 s6 kor8) (or9 hp0.2 hp1.2 s5 s6 kor8)
    refine ft_goS mi_k141 11 95 [.int x3, .int (((8 * x2) - 8) + x1), .ref 117] (by rfl) ?_
    refine ko_iast3 mi_k141.1 (n := 24) (c := 24) (ax := (0, 0, 0, 0, 0)) (mi_k141.2 _ _ (by rfl)) (by rfl) (ksG117 _ _ _ _) (ksA117 _ _ _ _) (hG.I.2.1 117) rfl (or10 hp0.1 s5 s6 s7 w4 kor8) (or11 hp0.2 s5 s6 s7 w4 kor8) ?_
    intro a8 ea8 fa8
    have hJ8 := kG_a3 hG 117 rfl ea8 fa8 (kd_bd _)
    have bw9 : ¬ (x2.toInt = 0) := (or13 w4)
    have bw10 : ¬ (x2.toInt = 4) := (or14 w4)
    have bw11 : ¬ (x2.toInt = 5) := (or15 w4)
    have bw12 : ¬ (x2.toInt = 6) := (or16 w4)
    exact ft_ret mi_k141 (by rfl) (hP  _ _ _ _ hJ8 ⟨trivial, ⟨(show a8 118 = (rSet x1 x2 x3 (a 118, a 117, i 7426, i 7427)).1 from (by unfold rSet; simp only [if_neg bw9, if_neg bw10, if_neg bw11, if_neg bw12]; first | done | rfl | (simp only [fa8 118 (by decide), sMn, sMx]; done) | (simp only [fa8 118 (by decide), sMn, sMx]; rfl))), (show a8 117 = (rSet x1 x2 x3 (a 118, a 117, i 7426, i 7427)).2.1 from (by unfold rSet; simp only [if_neg bw9, if_neg bw10, if_neg bw11, if_neg bw12]; first | done | rfl | (simp only [ea8, sMn, sMx]; done) | (simp only [ea8, sMn, sMx]; rfl))), (show i 7426 = (rSet x1 x2 x3 (a 118, a 117, i 7426, i 7427)).2.2.1 from (by unfold rSet; simp only [if_neg bw9, if_neg bw10, if_neg bw11, if_neg bw12]; first | done | rfl | (simp only [sMn, sMx]; done) | (simp only [sMn, sMx]; rfl))), (show i 7427 = (rSet x1 x2 x3 (a 118, a 117, i 7426, i 7427)).2.2.2 from (by unfold rSet; simp only [if_neg bw9, if_neg bw10, if_neg bw11, if_neg bw12]; first | done | rfl | (simp only [sMn, sMx]; done) | (simp only [sMn, sMx]; rfl)))⟩⟩)
  by_cases w13 : x2.toInt = 2
  ·
    refine ko_eq (x1 := (1, [(0, .ref 116), (1, .int x1), (2, .int x2), (3, .int x3)], [.int 2], (0, 0), ks i a q r)) (by rw [(kj_eq w13 (by decide) : x2 = 2)]) ?_
    have s14 : (8 * x2).toInt = 8 * x2.toInt := kd_cmul 8 kor8 (or17 w13) (or5 hp1.2)
    have s15 : ((8 * x2) - 8).toInt = (8 * x2).toInt - (8 : Int32).toInt := kd_sub (or18 s14 w13 kor8) (or7 hp1.2 s14 kor8)
    have s16 : (((8 * x2) - 8) + x1).toInt = ((8 * x2) - 8).toInt + x1.toInt := kd_add (or19 hp0.1 s14 s15 w13 kor8) (or9 hp0.2 hp1.2 s14 s15 kor8)
    refine ft_goS mi_k141 11 95 [.int x3, .int (((8 * x2) - 8) + x1), .ref 117] (by rfl) ?_
    refine ko_iast3 mi_k141.1 (n := 24) (c := 24) (ax := (0, 0, 0, 0, 0)) (mi_k141.2 _ _ (by rfl)) (by rfl) (ksG117 _ _ _ _) (ksA117 _ _ _ _) (hG.I.2.1 117) rfl (or20 hp0.1 s14 s15 s16 w13 kor8) (or21 hp0.2 s14 s15 s16 w13 kor8) ?_
    intro a17 ea17 fa17
    have hJ17 := kG_a3 hG 117 rfl ea17 fa17 (kd_bd _)
    have bw18 : ¬ (x2.toInt = 0) := (or23 w13)
    have bw19 : ¬ (x2.toInt = 4) := (or24 w13)
    have bw20 : ¬ (x2.toInt = 5) := (or25 w13)
    have bw21 : ¬ (x2.toInt = 6) := (or26 w13)
    exact ft_ret mi_k141 (by rfl) (hP  _ _ _ _ hJ17 ⟨trivial, ⟨(show a17 118 = (rSet x1 x2 x3 (a 118, a 117, i 7426, i 7427)).1 from (by unfold rSet; simp only [if_neg bw18, if_neg bw19, if_neg bw20, if_neg bw21]; first | done | rfl | (simp only [fa17 118 (by decide), sMn, sMx]; done) | (simp only [fa17 118 (by decide), sMn, sMx]; rfl))), (show a17 117 = (rSet x1 x2 x3 (a 118, a 117, i 7426, i 7427)).2.1 from (by unfold rSet; simp only [if_neg bw18, if_neg bw19, if_neg bw20, if_neg bw21]; first | done | rfl | (simp only [ea17, sMn, sMx]; done) | (simp only [ea17, sMn, sMx]; rfl))), (show i 7426 = (rSet x1 x2 x3 (a 118, a 117, i 7426, i 7427)).2.2.1 from (by unfold rSet; simp only [if_neg bw18, if_neg bw19, if_neg bw20, if_neg bw21]; first | done | rfl | (simp only [sMn, sMx]; done) | (simp only [sMn, sMx]; rfl))), (show i 7427 = (rSet x1 x2 x3 (a 118, a 117, i 7426, i 7427)).2.2.2 from (by unfold rSet; simp only [if_neg bw18, if_neg bw19, if_neg bw20, if_neg bw21]; first | done | rfl | (simp only [sMn, sMx]; done) | (simp only [sMn, sMx]; rfl)))⟩⟩)
  by_cases w22 : x2.toInt = 3
  ·
    refine ko_eq (x1 := (1, [(0, .ref 116), (1, .int x1), (2, .int x2), (3, .int x3)], [.int 3], (0, 0), ks i a q r)) (by rw [(kj_eq w22 (by decide) : x2 = 3)]) ?_
    have s23 : (8 * x2).toInt = 8 * x2.toInt := kd_cmul 8 kor8 (or27 w22) (or5 hp1.2)
    have s24 : ((8 * x2) - 8).toInt = (8 * x2).toInt - (8 : Int32).toInt := kd_sub (or28 s23 w22 kor8) (or7 hp1.2 s23 kor8)
    have s25 : (((8 * x2) - 8) + x1).toInt = ((8 * x2) - 8).toInt + x1.toInt := kd_add (or29 hp0.1 s23 s24 w22 kor8) (or9 hp0.2 hp1.2 s23 s24 kor8)
    refine ft_goS mi_k141 11 95 [.int x3, .int (((8 * x2) - 8) + x1), .ref 117] (by rfl) ?_
    refine ko_iast3 mi_k141.1 (n := 24) (c := 24) (ax := (0, 0, 0, 0, 0)) (mi_k141.2 _ _ (by rfl)) (by rfl) (ksG117 _ _ _ _) (ksA117 _ _ _ _) (hG.I.2.1 117) rfl (or30 hp0.1 s23 s24 s25 w22 kor8) (or31 hp0.2 s23 s24 s25 w22 kor8) ?_
    intro a26 ea26 fa26
    have hJ26 := kG_a3 hG 117 rfl ea26 fa26 (kd_bd _)
    have bw27 : ¬ (x2.toInt = 0) := (or33 w22)
    have bw28 : ¬ (x2.toInt = 4) := (or34 w22)
    have bw29 : ¬ (x2.toInt = 5) := (or35 w22)
    have bw30 : ¬ (x2.toInt = 6) := (or36 w22)
    exact ft_ret mi_k141 (by rfl) (hP  _ _ _ _ hJ26 ⟨trivial, ⟨(show a26 118 = (rSet x1 x2 x3 (a 118, a 117, i 7426, i 7427)).1 from (by unfold rSet; simp only [if_neg bw27, if_neg bw28, if_neg bw29, if_neg bw30]; first | done | rfl | (simp only [fa26 118 (by decide), sMn, sMx]; done) | (simp only [fa26 118 (by decide), sMn, sMx]; rfl))), (show a26 117 = (rSet x1 x2 x3 (a 118, a 117, i 7426, i 7427)).2.1 from (by unfold rSet; simp only [if_neg bw27, if_neg bw28, if_neg bw29, if_neg bw30]; first | done | rfl | (simp only [ea26, sMn, sMx]; done) | (simp only [ea26, sMn, sMx]; rfl))), (show i 7426 = (rSet x1 x2 x3 (a 118, a 117, i 7426, i 7427)).2.2.1 from (by unfold rSet; simp only [if_neg bw27, if_neg bw28, if_neg bw29, if_neg bw30]; first | done | rfl | (simp only [sMn, sMx]; done) | (simp only [sMn, sMx]; rfl))), (show i 7427 = (rSet x1 x2 x3 (a 118, a 117, i 7426, i 7427)).2.2.2 from (by unfold rSet; simp only [if_neg bw27, if_neg bw28, if_neg bw29, if_neg bw30]; first | done | rfl | (simp only [sMn, sMx]; done) | (simp only [sMn, sMx]; rfl)))⟩⟩)
  by_cases w31 : x2.toInt = 4
  ·
    refine ko_eq (x1 := (1, [(0, .ref 116), (1, .int x1), (2, .int x2), (3, .int x3)], [.int 4], (0, 0), ks i a q r)) (by rw [(kj_eq w31 (by decide) : x2 = 4)]) ?_
    have hJ32 := kG_i hG 7426 rfl (v := x3) ⟨(or54 hp2 w31), (or55 hp2 w31)⟩
    first | refine ft_goS mi_k141 5 96 [] (by rfl) ?_ | refine ft_goI mi_k141 5 96 [] (ku i 7426 x3) (by rfl) ?_
    have bw33 : ¬ (x2.toInt = 0) := (or38 w31)
    have bw34 : x2.toInt = 4 := (or39 w31)
    exact ft_ret mi_k141 (by rfl) (hP  _ _ _ _ hJ32 ⟨trivial, ⟨(show a 118 = (rSet x1 x2 x3 (a 118, a 117, i 7426, i 7427)).1 from (by unfold rSet; simp only [if_neg bw33, if_pos bw34]; first | done | rfl | (simp only [sMn, sMx]; done) | (simp only [sMn, sMx]; rfl))), (show a 117 = (rSet x1 x2 x3 (a 118, a 117, i 7426, i 7427)).2.1 from (by unfold rSet; simp only [if_neg bw33, if_pos bw34]; first | done | rfl | (simp only [sMn, sMx]; done) | (simp only [sMn, sMx]; rfl))), (show x3 = (rSet x1 x2 x3 (a 118, a 117, i 7426, i 7427)).2.2.1 from (by unfold rSet; simp only [if_neg bw33, if_pos bw34]; first | done | rfl | (simp only [sMn, sMx]; done) | (simp only [sMn, sMx]; rfl))), (show i 7427 = (rSet x1 x2 x3 (a 118, a 117, i 7426, i 7427)).2.2.2 from (by unfold rSet; simp only [if_neg bw33, if_pos bw34]; first | done | rfl | (simp only [sMn, sMx]; done) | (simp only [sMn, sMx]; rfl)))⟩⟩)
  by_cases w35 : x2.toInt = 5
  ·
    refine ko_eq (x1 := (1, [(0, .ref 116), (1, .int x1), (2, .int x2), (3, .int x3)], [.int 5], (0, 0), ks i a q r)) (by rw [(kj_eq w35 (by decide) : x2 = 5)]) ?_
    have hJ36 := kG_i hG 7427 rfl (v := x3) (kd_bd _)
    first | refine ft_goS mi_k141 5 96 [] (by rfl) ?_ | refine ft_goI mi_k141 5 96 [] (ku i 7427 x3) (by rfl) ?_
    have bw37 : ¬ (x2.toInt = 0) := (or41 w35)
    have bw38 : ¬ (x2.toInt = 4) := (or42 w35)
    have bw39 : x2.toInt = 5 := (or43 w35)
    exact ft_ret mi_k141 (by rfl) (hP  _ _ _ _ hJ36 ⟨trivial, ⟨(show a 118 = (rSet x1 x2 x3 (a 118, a 117, i 7426, i 7427)).1 from (by unfold rSet; simp only [if_neg bw37, if_neg bw38, if_pos bw39]; first | done | rfl | (simp only [sMn, sMx]; done) | (simp only [sMn, sMx]; rfl))), (show a 117 = (rSet x1 x2 x3 (a 118, a 117, i 7426, i 7427)).2.1 from (by unfold rSet; simp only [if_neg bw37, if_neg bw38, if_pos bw39]; first | done | rfl | (simp only [sMn, sMx]; done) | (simp only [sMn, sMx]; rfl))), (show i 7426 = (rSet x1 x2 x3 (a 118, a 117, i 7426, i 7427)).2.2.1 from (by unfold rSet; simp only [if_neg bw37, if_neg bw38, if_pos bw39]; first | done | rfl | (simp only [sMn, sMx]; done) | (simp only [sMn, sMx]; rfl))), (show x3 = (rSet x1 x2 x3 (a 118, a 117, i 7426, i 7427)).2.2.2 from (by unfold rSet; simp only [if_neg bw37, if_neg bw38, if_pos bw39]; first | done | rfl | (simp only [sMn, sMx]; done) | (simp only [sMn, sMx]; rfl)))⟩⟩)
  by_cases w40 : x2.toInt = 6
  ·
    refine ft_swx mi_k141 (pc := 1) (v := 6) (t := 70) (kj_eq w40 (by decide) : x2 = 6) (by decide +kernel) ?_
    refine ft_goS mi_k141 4 77 [.int x3, .int 8, .ref 118] (by rfl) ?_
    refine ko_iast3 mi_k141.1 (n := 31) (c := 31) (ax := (0, 0, 0, 0, 0)) (mi_k141.2 _ _ (by rfl)) (by rfl) (ksG118 _ _ _ _) (ksA118 _ _ _ _) (hG.I.2.1 118) rfl (or44 kor8) (or45 kor8) ?_
    intro a41 ea41 fa41
    have hJ41 := kG_a3 hG 118 rfl ea41 fa41 (kE_nset (p := 118) (by decide) (or44 kor8) (or56 kor8) (or57 kor8))
    first | refine ft_goS mi_k141 1 96 [] (by rfl) ?_
    have bw42 : ¬ (x2.toInt = 0) := (or47 w40)
    have bw43 : ¬ (x2.toInt = 4) := (or48 w40)
    have bw44 : ¬ (x2.toInt = 5) := (or49 w40)
    have bw45 : x2.toInt = 6 := (or50 hp1.2 w40)
    exact ft_ret mi_k141 (by rfl) (hP  _ _ _ _ hJ41 ⟨trivial, ⟨(show a41 118 = (rSet x1 x2 x3 (a 118, a 117, i 7426, i 7427)).1 from (by unfold rSet; simp only [if_neg bw42, if_neg bw43, if_neg bw44, if_pos bw45]; first | done | rfl | (simp only [ea41, sMn, sMx]; done) | (simp only [ea41, sMn, sMx]; rfl))), (show a41 117 = (rSet x1 x2 x3 (a 118, a 117, i 7426, i 7427)).2.1 from (by unfold rSet; simp only [if_neg bw42, if_neg bw43, if_neg bw44, if_pos bw45]; first | done | rfl | (simp only [fa41 117 (by decide), sMn, sMx]; done) | (simp only [fa41 117 (by decide), sMn, sMx]; rfl))), (show i 7426 = (rSet x1 x2 x3 (a 118, a 117, i 7426, i 7427)).2.2.1 from (by unfold rSet; simp only [if_neg bw42, if_neg bw43, if_neg bw44, if_pos bw45]; first | done | rfl | (simp only [sMn, sMx]; done) | (simp only [sMn, sMx]; rfl))), (show i 7427 = (rSet x1 x2 x3 (a 118, a 117, i 7426, i 7427)).2.2.2 from (by unfold rSet; simp only [if_neg bw42, if_neg bw43, if_neg bw44, if_pos bw45]; first | done | rfl | (simp only [sMn, sMx]; done) | (simp only [sMn, sMx]; rfl)))⟩⟩)
  exact (or58 hp1.1 hp1.2 w1 w13 w22 w31 w35 w4 w40).elim
set_option maxRecDepth 100000 in
theorem ke143_116 {i : Nat → Int32} {a : Nat → List Int32} {q : Nat → List Int64} {r : Nat → Nat} (hI : kI i a q) (hr : kr r) (x1 : Int32) (x2 : Int32) : km 7 143 [.ref 116, .int x1, .int x2] (ks i a q r) (kPI (ks i a q r) (fun v => (True) ∧ v = rOf (i 7424) x1 x2 (a 118, a 117, i 7426, i 7427))) := by
  have hG := kG_self kW0 hI hr
  refine km_ofPI (q := (mi_h143, mi_c143)) rfl (by decide) (Nat.le_of_ble_eq_true rfl) ?_
  intro P hP
  refine ft_goL mi_k143 3 3 [(0, .ref 116), (1, .int x1), (2, .int x2)] [.int x2, .int x1, .ref 116] (by rfl) ?_
  refine ko_callPI mi_k143.1 (pc := 3) (ls := [(0, .ref 116), (1, .int x1), (2, .int x2)]) (st := [.int x2, .int x1, .ref 116]) (h := ks i a q r) (i := (.invokevirtual 140, 3, 138, 0, 9, 0, 386)) (mi_k143.2 _ _ (by rfl)) (ft_invS mi_pq138 (by rfl)) (cy := mi_c138) mi_pq138 rfl (kc138_116 hG.I hG.R x1 x2) (by decide) ?_
  intro vg1 hg1
  rcases hg1 with ⟨eg1, hg1⟩ | ⟨eg1, hg1⟩
  ·
    subst eg1
    have fi_7424 : ((0 : Int) ≤ (i 7424).toInt) ∧ ((i 7424).toInt ≤ 8) := hG.I.1 7424
    have z2 : (((0 : Int) ≤ x2.toInt) ∧ (x2.toInt ≤ 3) ∧ ((0 : Int) ≤ x1.toInt) ∧ (x1.toInt < (i 7424).toInt)) ∨ (((4 : Int) ≤ x2.toInt) ∧ (x2.toInt ≤ 6) ∧ (x1.toInt = 0)) := hg1
    refine ft_goS mi_k143 4 12 [.int x2, .int x1, .ref 116] (by rfl) ?_
    refine ko_callPI mi_k143.1 (pc := 12) (ls := [(0, .ref 116), (1, .int x1), (2, .int x2)]) (st := [.int x2, .int x1, .ref 116]) (h := ks i a q r) (i := (.invokevirtual 147, 3, 140, 0, 9, 0, 389)) (mi_k143.2 _ _ (by rfl)) (ft_invS mi_pq140 (by rfl)) (cy := mi_c140) mi_pq140 rfl (ke140_116 hG.I hG.R x1 x2 (or71 fi_7424.2 z2) (or72 z2)) (by decide) ?_
    intro vg3 hg3
    obtain ⟨hg3, og3⟩ := hg3
    have q5 : vg3 = rGet x1 x2 (a 118, a 117, i 7426, i 7427) := og3
    first | refine ft_goS mi_k143 1 19 [.int vg3] (by rfl) ?_
    have bw6 : (((0 : Int) ≤ x2.toInt) ∧ (x2.toInt ≤ 3) ∧ ((0 : Int) ≤ x1.toInt) ∧ (x1.toInt < (i 7424).toInt)) ∨ (((4 : Int) ≤ x2.toInt) ∧ (x2.toInt ≤ 6) ∧ (x1.toInt = 0)) := (or73 z2)
    exact ft_ret mi_k143 (by rfl) (hP vg3 ⟨trivial, (show vg3 = rOf (i 7424) x1 x2 (a 118, a 117, i 7426, i 7427) from (by unfold rOf; simp only [if_pos bw6]; first | done | rfl | (simp only [q5, sMn, sMx]; done) | (simp only [q5, sMn, sMx]; rfl)))⟩)
  ·
    subst eg1
    have fi_7424 : ((0 : Int) ≤ (i 7424).toInt) ∧ ((i 7424).toInt ≤ 8) := hG.I.1 7424
    have z7 : ¬ ((((0 : Int) ≤ x2.toInt) ∧ (x2.toInt ≤ 3) ∧ ((0 : Int) ≤ x1.toInt) ∧ (x1.toInt < (i 7424).toInt)) ∨ (((4 : Int) ≤ x2.toInt) ∧ (x2.toInt ≤ 6) ∧ (x1.toInt = 0))) := hg1
    first | refine ft_goS mi_k143 2 19 [.int (-1)] (by rfl) ?_
    have bw8 : ¬ ((((0 : Int) ≤ x2.toInt) ∧ (x2.toInt ≤ 3) ∧ ((0 : Int) ≤ x1.toInt) ∧ (x1.toInt < (i 7424).toInt)) ∨ (((4 : Int) ≤ x2.toInt) ∧ (x2.toInt ≤ 6) ∧ (x1.toInt = 0))) := (or74 fi_7424.1 z7)
    exact ft_ret mi_k143 (by rfl) (hP (-1) ⟨trivial, (show ((-1) : Int32) = rOf (i 7424) x1 x2 (a 118, a 117, i 7426, i 7427) from (by unfold rOf; simp only [if_neg bw8]; first | done | rfl | (simp only [sMn, sMx]; done) | (simp only [sMn, sMx]; rfl)))⟩)
set_option maxRecDepth 100000 in
theorem ke139_l00 {i : Nat → Int32} {a : Nat → List Int32} {q : Nat → List Int64} {r : Nat → Nat} (hI : kI i a q) (hr : kr r) (x2 : Int32) : km 3 139 [.int 0, .int x2] (ks i a q r) (kPI (ks i a q r) (fun v => (v = 1 ∧ (((0 : Int) ≤ x2.toInt) ∧ (x2.toInt ≤ 999))) ∨ (v = 0 ∧ (¬ (((0 : Int) ≤ x2.toInt) ∧ (x2.toInt ≤ 999)))))) := by
  have hG := kG_self kW0 hI hr
  refine km_ofPI (q := (mi_h139, mi_c139)) rfl (by decide) (Nat.le_of_ble_eq_true rfl) ?_
  intro P hP
  refine ft_goL mi_k139 5 49 [(0, .int 0), (1, .int x2)] [.int 999, .int 0, .int x2] (by rfl) ?_
  refine ko_callPI mi_k139.1 (pc := 49) (ls := [(0, .int 0), (1, .int x2)]) (st := [.int 999, .int 0, .int x2]) (h := ks i a q r) (i := (.invokestatic 119, 3, 131, 0, 9, 0, 379)) (mi_k139.2 _ _ (by rfl)) (ft_invS mi_pq131 (by rfl)) (cy := mi_c131) mi_pq131 rfl (kc131 hG.I hG.R x2 0 999) (by decide) ?_
  intro vg1 hg1
  rcases hg1 with ⟨eg1, hg1⟩ | ⟨eg1, hg1⟩
  ·
    subst eg1
    have z2 : ((0 : Int32).toInt ≤ x2.toInt) ∧ (x2.toInt ≤ (999 : Int32).toInt) := hg1
    exact ft_ret mi_k139 (by rfl) (hP 1 (Or.inl ⟨rfl, (or75 z2.1 z2.2 kor0 kor999)⟩))
  ·
    subst eg1
    have z3 : ¬ (((0 : Int32).toInt ≤ x2.toInt) ∧ (x2.toInt ≤ (999 : Int32).toInt)) := hg1
    exact ft_ret mi_k139 (by rfl) (hP 0 (Or.inr ⟨rfl, (or76 z3 kor0 kor999)⟩))
set_option maxRecDepth 100000 in
theorem ke139_l01 {i : Nat → Int32} {a : Nat → List Int32} {q : Nat → List Int64} {r : Nat → Nat} (hI : kI i a q) (hr : kr r) (x2 : Int32) : km 3 139 [.int 1, .int x2] (ks i a q r) (kPI (ks i a q r) (fun v => (v = 1 ∧ (((0 : Int) ≤ x2.toInt) ∧ (x2.toInt ≤ 9))) ∨ (v = 0 ∧ (¬ (((0 : Int) ≤ x2.toInt) ∧ (x2.toInt ≤ 9)))))) := by
  have hG := kG_self kW0 hI hr
  refine km_ofPI (q := (mi_h139, mi_c139)) rfl (by decide) (Nat.le_of_ble_eq_true rfl) ?_
  intro P hP
  refine ft_goL mi_k139 5 57 [(0, .int 1), (1, .int x2)] [.int 9, .int 0, .int x2] (by rfl) ?_
  refine ko_callPI mi_k139.1 (pc := 57) (ls := [(0, .int 1), (1, .int x2)]) (st := [.int 9, .int 0, .int x2]) (h := ks i a q r) (i := (.invokestatic 119, 3, 131, 0, 9, 0, 379)) (mi_k139.2 _ _ (by rfl)) (ft_invS mi_pq131 (by rfl)) (cy := mi_c131) mi_pq131 rfl (kc131 hG.I hG.R x2 0 9) (by decide) ?_
  intro vg1 hg1
  rcases hg1 with ⟨eg1, hg1⟩ | ⟨eg1, hg1⟩
  ·
    subst eg1
    have z2 : ((0 : Int32).toInt ≤ x2.toInt) ∧ (x2.toInt ≤ (9 : Int32).toInt) := hg1
    exact ft_ret mi_k139 (by rfl) (hP 1 (Or.inl ⟨rfl, (or162 z2.1 z2.2 kor0 kor9)⟩))
  ·
    subst eg1
    have z3 : ¬ (((0 : Int32).toInt ≤ x2.toInt) ∧ (x2.toInt ≤ (9 : Int32).toInt)) := hg1
    exact ft_ret mi_k139 (by rfl) (hP 0 (Or.inr ⟨rfl, (or163 z3 kor0 kor9)⟩))
set_option maxRecDepth 100000 in
theorem ke139_l02 {i : Nat → Int32} {a : Nat → List Int32} {q : Nat → List Int64} {r : Nat → Nat} (hI : kI i a q) (hr : kr r) (x2 : Int32) : km 3 139 [.int 2, .int x2] (ks i a q r) (kPI (ks i a q r) (fun v => (v = 1 ∧ (((0 : Int) ≤ x2.toInt) ∧ (x2.toInt ≤ 9))) ∨ (v = 0 ∧ (¬ (((0 : Int) ≤ x2.toInt) ∧ (x2.toInt ≤ 9)))))) := by
  have hG := kG_self kW0 hI hr
  refine km_ofPI (q := (mi_h139, mi_c139)) rfl (by decide) (Nat.le_of_ble_eq_true rfl) ?_
  intro P hP
  refine ft_goL mi_k139 5 57 [(0, .int 2), (1, .int x2)] [.int 9, .int 0, .int x2] (by rfl) ?_
  refine ko_callPI mi_k139.1 (pc := 57) (ls := [(0, .int 2), (1, .int x2)]) (st := [.int 9, .int 0, .int x2]) (h := ks i a q r) (i := (.invokestatic 119, 3, 131, 0, 9, 0, 379)) (mi_k139.2 _ _ (by rfl)) (ft_invS mi_pq131 (by rfl)) (cy := mi_c131) mi_pq131 rfl (kc131 hG.I hG.R x2 0 9) (by decide) ?_
  intro vg1 hg1
  rcases hg1 with ⟨eg1, hg1⟩ | ⟨eg1, hg1⟩
  ·
    subst eg1
    have z2 : ((0 : Int32).toInt ≤ x2.toInt) ∧ (x2.toInt ≤ (9 : Int32).toInt) := hg1
    exact ft_ret mi_k139 (by rfl) (hP 1 (Or.inl ⟨rfl, (or162 z2.1 z2.2 kor0 kor9)⟩))
  ·
    subst eg1
    have z3 : ¬ (((0 : Int32).toInt ≤ x2.toInt) ∧ (x2.toInt ≤ (9 : Int32).toInt)) := hg1
    exact ft_ret mi_k139 (by rfl) (hP 0 (Or.inr ⟨rfl, (or163 z3 kor0 kor9)⟩))
set_option maxRecDepth 100000 in
theorem ke139_l03 {i : Nat → Int32} {a : Nat → List Int32} {q : Nat → List Int64} {r : Nat → Nat} (hI : kI i a q) (hr : kr r) (x2 : Int32) : km 3 139 [.int 3, .int x2] (ks i a q r) (kPI (ks i a q r) (fun v => (v = 1 ∧ (((0 : Int) ≤ x2.toInt) ∧ (x2.toInt ≤ 1))) ∨ (v = 0 ∧ (¬ (((0 : Int) ≤ x2.toInt) ∧ (x2.toInt ≤ 1)))))) := by
  have hG := kG_self kW0 hI hr
  refine km_ofPI (q := (mi_h139, mi_c139)) rfl (by decide) (Nat.le_of_ble_eq_true rfl) ?_
  intro P hP
  refine ft_goL mi_k139 5 79 [(0, .int 3), (1, .int x2)] [.int 1, .int 0, .int x2] (by rfl) ?_
  refine ko_callPI mi_k139.1 (pc := 79) (ls := [(0, .int 3), (1, .int x2)]) (st := [.int 1, .int 0, .int x2]) (h := ks i a q r) (i := (.invokestatic 119, 3, 131, 0, 9, 0, 379)) (mi_k139.2 _ _ (by rfl)) (ft_invS mi_pq131 (by rfl)) (cy := mi_c131) mi_pq131 rfl (kc131 hG.I hG.R x2 0 1) (by decide) ?_
  intro vg1 hg1
  rcases hg1 with ⟨eg1, hg1⟩ | ⟨eg1, hg1⟩
  ·
    subst eg1
    have z2 : ((0 : Int32).toInt ≤ x2.toInt) ∧ (x2.toInt ≤ (1 : Int32).toInt) := hg1
    exact ft_ret mi_k139 (by rfl) (hP 1 (Or.inl ⟨rfl, (or194 z2.1 z2.2 kor0 kor1)⟩))
  ·
    subst eg1
    have z3 : ¬ (((0 : Int32).toInt ≤ x2.toInt) ∧ (x2.toInt ≤ (1 : Int32).toInt)) := hg1
    exact ft_ret mi_k139 (by rfl) (hP 0 (Or.inr ⟨rfl, (or195 z3 kor0 kor1)⟩))
set_option maxRecDepth 100000 in
theorem ke139_l04 {i : Nat → Int32} {a : Nat → List Int32} {q : Nat → List Int64} {r : Nat → Nat} (hI : kI i a q) (hr : kr r) (x2 : Int32) : km 3 139 [.int 4, .int x2] (ks i a q r) (kPI (ks i a q r) (fun v => (v = 1 ∧ (((1 : Int) ≤ x2.toInt) ∧ (x2.toInt ≤ 5))) ∨ (v = 0 ∧ (¬ (((1 : Int) ≤ x2.toInt) ∧ (x2.toInt ≤ 5)))))) := by
  have hG := kG_self kW0 hI hr
  refine km_ofPI (q := (mi_h139, mi_c139)) rfl (by decide) (Nat.le_of_ble_eq_true rfl) ?_
  intro P hP
  refine ft_goL mi_k139 5 64 [(0, .int 4), (1, .int x2)] [.int 5, .int 1, .int x2] (by rfl) ?_
  refine ko_callPI mi_k139.1 (pc := 64) (ls := [(0, .int 4), (1, .int x2)]) (st := [.int 5, .int 1, .int x2]) (h := ks i a q r) (i := (.invokestatic 119, 3, 131, 0, 9, 0, 379)) (mi_k139.2 _ _ (by rfl)) (ft_invS mi_pq131 (by rfl)) (cy := mi_c131) mi_pq131 rfl (kc131 hG.I hG.R x2 1 5) (by decide) ?_
  intro vg1 hg1
  rcases hg1 with ⟨eg1, hg1⟩ | ⟨eg1, hg1⟩
  ·
    subst eg1
    have z2 : ((1 : Int32).toInt ≤ x2.toInt) ∧ (x2.toInt ≤ (5 : Int32).toInt) := hg1
    exact ft_ret mi_k139 (by rfl) (hP 1 (Or.inl ⟨rfl, (or208 z2.1 z2.2 kor1 kor5)⟩))
  ·
    subst eg1
    have z3 : ¬ (((1 : Int32).toInt ≤ x2.toInt) ∧ (x2.toInt ≤ (5 : Int32).toInt)) := hg1
    exact ft_ret mi_k139 (by rfl) (hP 0 (Or.inr ⟨rfl, (or209 z3 kor1 kor5)⟩))
set_option maxRecDepth 100000 in
theorem ke139_l05 {i : Nat → Int32} {a : Nat → List Int32} {q : Nat → List Int64} {r : Nat → Nat} (hI : kI i a q) (hr : kr r) (x2 : Int32) : km 3 139 [.int 5, .int x2] (ks i a q r) (kPI (ks i a q r) (fun v => (v = 1 ∧ (((0 : Int) ≤ x2.toInt) ∧ (x2.toInt ≤ 1))) ∨ (v = 0 ∧ (¬ (((0 : Int) ≤ x2.toInt) ∧ (x2.toInt ≤ 1)))))) := by
  have hG := kG_self kW0 hI hr
  refine km_ofPI (q := (mi_h139, mi_c139)) rfl (by decide) (Nat.le_of_ble_eq_true rfl) ?_
  intro P hP
  refine ft_goL mi_k139 5 79 [(0, .int 5), (1, .int x2)] [.int 1, .int 0, .int x2] (by rfl) ?_
  refine ko_callPI mi_k139.1 (pc := 79) (ls := [(0, .int 5), (1, .int x2)]) (st := [.int 1, .int 0, .int x2]) (h := ks i a q r) (i := (.invokestatic 119, 3, 131, 0, 9, 0, 379)) (mi_k139.2 _ _ (by rfl)) (ft_invS mi_pq131 (by rfl)) (cy := mi_c131) mi_pq131 rfl (kc131 hG.I hG.R x2 0 1) (by decide) ?_
  intro vg1 hg1
  rcases hg1 with ⟨eg1, hg1⟩ | ⟨eg1, hg1⟩
  ·
    subst eg1
    have z2 : ((0 : Int32).toInt ≤ x2.toInt) ∧ (x2.toInt ≤ (1 : Int32).toInt) := hg1
    exact ft_ret mi_k139 (by rfl) (hP 1 (Or.inl ⟨rfl, (or194 z2.1 z2.2 kor0 kor1)⟩))
  ·
    subst eg1
    have z3 : ¬ (((0 : Int32).toInt ≤ x2.toInt) ∧ (x2.toInt ≤ (1 : Int32).toInt)) := hg1
    exact ft_ret mi_k139 (by rfl) (hP 0 (Or.inr ⟨rfl, (or195 z3 kor0 kor1)⟩))
set_option maxRecDepth 100000 in
theorem ke139_l06 {i : Nat → Int32} {a : Nat → List Int32} {q : Nat → List Int64} {r : Nat → Nat} (hI : kI i a q) (hr : kr r) (x2 : Int32) : km 3 139 [.int 6, .int x2] (ks i a q r) (kPI (ks i a q r) (fun v => (v = 1 ∧ (((0 : Int) ≤ x2.toInt) ∧ (x2.toInt ≤ 99))) ∨ (v = 0 ∧ (¬ (((0 : Int) ≤ x2.toInt) ∧ (x2.toInt ≤ 99)))))) := by
  have hG := kG_self kW0 hI hr
  refine km_ofPI (q := (mi_h139, mi_c139)) rfl (by decide) (Nat.le_of_ble_eq_true rfl) ?_
  intro P hP
  refine ft_goL mi_k139 5 72 [(0, .int 6), (1, .int x2)] [.int 99, .int 0, .int x2] (by rfl) ?_
  refine ko_callPI mi_k139.1 (pc := 72) (ls := [(0, .int 6), (1, .int x2)]) (st := [.int 99, .int 0, .int x2]) (h := ks i a q r) (i := (.invokestatic 119, 3, 131, 0, 9, 0, 379)) (mi_k139.2 _ _ (by rfl)) (ft_invS mi_pq131 (by rfl)) (cy := mi_c131) mi_pq131 rfl (kc131 hG.I hG.R x2 0 99) (by decide) ?_
  intro vg1 hg1
  rcases hg1 with ⟨eg1, hg1⟩ | ⟨eg1, hg1⟩
  ·
    subst eg1
    have z2 : ((0 : Int32).toInt ≤ x2.toInt) ∧ (x2.toInt ≤ (99 : Int32).toInt) := hg1
    exact ft_ret mi_k139 (by rfl) (hP 1 (Or.inl ⟨rfl, (or232 z2.1 z2.2 kor0 kor99)⟩))
  ·
    subst eg1
    have z3 : ¬ (((0 : Int32).toInt ≤ x2.toInt) ∧ (x2.toInt ≤ (99 : Int32).toInt)) := hg1
    exact ft_ret mi_k139 (by rfl) (hP 0 (Or.inr ⟨rfl, (or233 z3 kor0 kor99)⟩))
noncomputable def yw142_116 : kW := ([7426, 7427, 7452, 7453], [117, 118, 133], [], [])
noncomputable def yw142_116_L55 : kW := ([], [133], [], [])
set_option maxRecDepth 100000 in
theorem ke142_116 {i : Nat → Int32} {a : Nat → List Int32} {q : Nat → List Int64} {r : Nat → Nat} (hI : kI i a q) (hr : kr r) (x1 : Int32) (x2 : Int32) (x3 : Int32) (hp0 : (i 7453).toInt ≤ (i 7452).toInt) (hE_chg : kChg i a) : km 7 142 [.ref 116, .int x1, .int x2, .int x3] (ks i a q r) (kVI yw142_116 i a q r (fun v i1 a1 q1 r1 => ((i1 7453).toInt ≤ (i1 7452).toInt) ∧ ((v = (rMend (i 7424) x1 x2 x3 (a 118, a 117, i 7426, i 7427) (a 133, i 7452, i 7453)).1 ∧ a1 118 = ((rMend (i 7424) x1 x2 x3 (a 118, a 117, i 7426, i 7427) (a 133, i 7452, i 7453)).2.1).1 ∧ a1 117 = ((rMend (i 7424) x1 x2 x3 (a 118, a 117, i 7426, i 7427) (a 133, i 7452, i 7453)).2.1).2.1 ∧ i1 7426 = ((rMend (i 7424) x1 x2 x3 (a 118, a 117, i 7426, i 7427) (a 133, i 7452, i 7453)).2.1).2.2.1 ∧ i1 7427 = ((rMend (i 7424) x1 x2 x3 (a 118, a 117, i 7426, i 7427) (a 133, i 7452, i 7453)).2.1).2.2.2 ∧ a1 133 = ((rMend (i 7424) x1 x2 x3 (a 118, a 117, i 7426, i 7427) (a 133, i 7452, i 7453)).2.2).1 ∧ i1 7452 = ((rMend (i 7424) x1 x2 x3 (a 118, a 117, i 7426, i 7427) (a 133, i 7452, i 7453)).2.2).2.1 ∧ i1 7453 = ((rMend (i 7424) x1 x2 x3 (a 118, a 117, i 7426, i 7427) (a 133, i 7452, i 7453)).2.2).2.2) ∧ kChL (a1 133)))) := by
  have hG := kG_self yw142_116 hI hr
  refine km_ofI (q := (mi_h142, mi_c142)) rfl (by decide) (Nat.le_of_ble_eq_true rfl) ?_
  intro P hP
  have fi_7453 : ((0 : Int) ≤ (i 7453).toInt) ∧ ((i 7453).toInt ≤ 40) := hG.I.1 7453
  have fi_7452 : ((0 : Int) ≤ (i 7452).toInt) ∧ ((i 7452).toInt ≤ 40) := hG.I.1 7452
  refine ft_goL mi_k142 3 3 [(0, .ref 116), (1, .int x1), (2, .int x2), (3, .int x3)] [.int x2, .int x1, .ref 116] (by rfl) ?_
  refine ko_callPI mi_k142.1 (pc := 3) (ls := [(0, .ref 116), (1, .int x1), (2, .int x2), (3, .int x3)]) (st := [.int x2, .int x1, .ref 116]) (h := ks i a q r) (i := (.invokevirtual 140, 3, 138, 0, 9, 0, 386)) (mi_k142.2 _ _ (by rfl)) (ft_invS mi_pq138 (by rfl)) (cy := mi_c138) mi_pq138 rfl (kc138_116 hG.I hG.R x1 x2) (by decide) ?_
  intro vg1 hg1
  rcases hg1 with ⟨eg1, hg1⟩ | ⟨eg1, hg1⟩
  ·
    subst eg1
    have fi_7424 : ((0 : Int) ≤ (i 7424).toInt) ∧ ((i 7424).toInt ≤ 8) := hG.I.1 7424
    have z2 : (((0 : Int) ≤ x2.toInt) ∧ (x2.toInt ≤ 3) ∧ ((0 : Int) ≤ x1.toInt) ∧ (x1.toInt < (i 7424).toInt)) ∨ (((4 : Int) ≤ x2.toInt) ∧ (x2.toInt ≤ 6) ∧ (x1.toInt = 0)) := hg1
    refine ft_goS mi_k142 3 11 [.int x3, .int x2] (by rfl) ?_
    by_cases w3 : x2.toInt = 0
    ·
      refine ko_eq (x1 := (11, [(0, .ref 116), (1, .int x1), (2, .int x2), (3, .int x3)], [.int x3, .int 0], (0, 0), ks i a q r)) (by rw [(kj_eq w3 (by decide) : x2 = 0)]) ?_
      refine ko_callPI mi_k142.1 (pc := 11) (ls := [(0, .ref 116), (1, .int x1), (2, .int x2), (3, .int x3)]) (st := [.int x3, .int 0]) (h := ks i a q r) (i := (.invokestatic 144, 3, 139, 0, 9, 0, 388)) (mi_k142.2 _ _ (by rfl)) (ft_invS mi_pq139 (by rfl)) (cy := mi_c139) mi_pq139 rfl (ke139_l00 hG.I hG.R x3) (by decide) ?_
      intro vg4 hg4
      rcases hg4 with ⟨eg4, hg4⟩ | ⟨eg4, hg4⟩
      ·
        subst eg4
        have z5 : ((0 : Int) ≤ x3.toInt) ∧ (x3.toInt ≤ 999) := hg4
        refine fo_goS mi_k142 fz142_14_4_22 [.int x2, .int x1, .ref 116] rfl ?_
        refine ko_callPI mi_k142.1 (pc := 22) (ls := [(0, .ref 116), (1, .int x1), (2, .int x2), (3, .int x3)]) (st := [.int x2, .int x1, .ref 116]) (h := ks i a q r) (i := (.invokevirtual 147, 3, 140, 0, 9, 0, 389)) (mi_k142.2 _ _ (by rfl)) (ft_invS mi_pq140 (by rfl)) (cy := mi_c140) mi_pq140 rfl (ke140_116 hG.I hG.R x1 x2 (or77 fi_7424.2 w3 z2) (or78 w3)) (by decide) ?_
        intro vg6 hg6
        obtain ⟨hg6, og6⟩ := hg6
        have z7 : ((x2.toInt = 4) → (((1 : Int) ≤ vg6.toInt) ∧ (vg6.toInt ≤ 5))) := hg6
        have q8 : vg6 = rGet x1 x2 (a 118, a 117, i 7426, i 7427) := og6
        have u9 : vg6.toInt = (rGet x1 x2 (a 118, a 117, i 7426, i 7427)).toInt := congrArg Int32.toInt q8
        refine fo_goL mi_k142 fz142_25_3_30 [(4, .int vg6), (0, .ref 116), (1, .int x1), (2, .int x2), (3, .int x3)] [.int x3, .int vg6] rfl ?_
        refine ft_ifS mi_k142 (vg6 != x3) 36 33 [] (by rfl) (fun c => ?_) (fun c => ?_)
        ·
          have c10 : vg6.toInt ≠ x3.toInt := kd_ne c; clear c
          refine fo_goS mi_k142 fz142_36_4_40 [.int x3, .int x2, .int x1, .ref 116] rfl ?_
          refine ko_callN mi_k142.1 (pc := 40) (ls := [(4, .int vg6), (0, .ref 116), (1, .int x1), (2, .int x2), (3, .int x3)]) (st := [.int x3, .int x2, .int x1, .ref 116]) (h := ks i a q r) (i := (.invokevirtual 150, 3, 141, 0, 9, 0, 390)) (mi_k142.2 _ _ (by rfl)) (ft_invS mi_pq141 (by rfl)) (cy := mi_c141) mi_pq141 rfl (ke141_116 hG.I hG.R x1 x2 x3 (or77 fi_7424.2 w3 z2) (or78 w3) (or2 w3)) (by decide) ?_
          intro ig11 ag11 qg11 rg11 kg11 hg11
          have hGg11 := kG_call hG kg11 (by decide +kernel)
          obtain ⟨hg11, og11⟩ := hg11
          have q12 : ag11 118 = (rSet x1 x2 x3 (a 118, a 117, i 7426, i 7427)).1 := og11.1
          have q13 : ag11 117 = (rSet x1 x2 x3 (a 118, a 117, i 7426, i 7427)).2.1 := og11.2.1
          have q14 : ig11 7426 = (rSet x1 x2 x3 (a 118, a 117, i 7426, i 7427)).2.2.1 := og11.2.2.1
          have q15 : ig11 7427 = (rSet x1 x2 x3 (a 118, a 117, i 7426, i 7427)).2.2.2 := og11.2.2.2
          have fig11_7453 : ((0 : Int) ≤ (ig11 7453).toInt) ∧ ((ig11 7453).toInt ≤ 40) := hGg11.I.1 7453
          have efig11_7453 : (ig11 7453).toInt = (i 7453).toInt := kg11.ti 7453 rfl
          refine fo_goS mi_k142 fz142_43_3_49 [.int 40, .int (ig11 7453)] rfl ?_
          refine ft_ifS mi_k142 ((ig11 7453) != 40) 95 52 [] (by rfl) (fun c => ?_) (fun c => ?_)
          ·
            have c16 : (ig11 7453).toInt ≠ (40 : Int32).toInt := kd_ne c; clear c
            have s17 : (4 * (ig11 7453)).toInt = 4 * (ig11 7453).toInt := kd_cmul 4 kor4 (or79 fig11_7453.1) (or80 fig11_7453.2)
            refine fo_goS mi_k142 fz142_95_7_106 [.int x1, .int (4 * (ig11 7453)), .ref 133] rfl ?_
            refine ko_iast3 mi_k142.1 (n := 160) (c := 160) (ax := (0, 0, 0, 0, 0)) (mi_k142.2 _ _ (by rfl)) (by rfl) (ksG133 _ _ _ _) (ksA133 _ _ _ _) (hGg11.I.2.1 133) rfl (or81 fig11_7453.1 s17) (or82 c16 fig11_7453.2 s17 kor40) ?_
            intro a18 ea18 fa18
            have hJ18 := kG_a3 hGg11 133 rfl ea18 fa18 (kE_cset (or81 fig11_7453.1 s17) (or83 fi_7424.2 w3 z2) (by have := kor40; omega))
            have s19 : ((4 * (ig11 7453)) + 1).toInt = (4 * (ig11 7453)).toInt + (1 : Int32).toInt := kd_add (or84 fig11_7453.1 s17 kor1) (or85 fig11_7453.2 s17 kor1)
            refine fo_goS mi_k142 fz142_107_9_120 [.int x2, .int ((4 * (ig11 7453)) + 1), .ref 133] rfl ?_
            refine ko_iast3 mi_k142.1 (n := 160) (c := 160) (ax := (0, 0, 0, 0, 0)) (mi_k142.2 _ _ (by rfl)) (by rfl) (ksG133 _ _ _ _) (ksA133 _ _ _ _) (hJ18.I.2.1 133) rfl (or86 fig11_7453.1 s17 s19 kor1) (or87 c16 fig11_7453.2 s17 s19 kor40 kor1) ?_
            intro a20 ea20 fa20
            have hJ20 := kG_a3 hJ18 133 rfl ea20 fa20 (kE_cset (or86 fig11_7453.1 s17 s19 kor1) (or88 w3) (or89 w3))
            have s21 : ((4 * (ig11 7453)) + 2).toInt = (4 * (ig11 7453)).toInt + (2 : Int32).toInt := kd_add (or90 fig11_7453.1 s17 kor2) (or91 fig11_7453.2 s17 kor2)
            refine fo_goS mi_k142 fz142_121_9_135 [.int vg6, .int ((4 * (ig11 7453)) + 2), .ref 133] rfl ?_
            refine ko_iast3 mi_k142.1 (n := 160) (c := 160) (ax := (0, 0, 0, 0, 0)) (mi_k142.2 _ _ (by rfl)) (by rfl) (ksG133 _ _ _ _) (ksA133 _ _ _ _) (hJ20.I.2.1 133) rfl (or92 fig11_7453.1 s17 s21 kor2) (or93 c16 fig11_7453.2 s17 s21 kor40 kor2) ?_
            intro a22 ea22 fa22
            have hJ22 := kG_a3 hJ20 133 rfl ea22 fa22 (kE_cset (or92 fig11_7453.1 s17 s21 kor2) (by have := kor1; have := kor2; have := kor40; omega) (by have := kor1; have := kor2; have := kor40; omega))
            have s23 : ((4 * (ig11 7453)) + 3).toInt = (4 * (ig11 7453)).toInt + (3 : Int32).toInt := kd_add (or94 fig11_7453.1 s17 kor3) (or95 fig11_7453.2 s17 kor3)
            refine fo_goS mi_k142 fz142_136_9_149 [.int x3, .int ((4 * (ig11 7453)) + 3), .ref 133] rfl ?_
            refine ko_iast3 mi_k142.1 (n := 160) (c := 160) (ax := (0, 0, 0, 0, 0)) (mi_k142.2 _ _ (by rfl)) (by rfl) (ksG133 _ _ _ _) (ksA133 _ _ _ _) (hJ22.I.2.1 133) rfl (or96 fig11_7453.1 s17 s23 kor3) (or97 c16 fig11_7453.2 s17 s23 kor40 kor3) ?_
            intro a24 ea24 fa24
            have hJ24 := kG_a3 hJ22 133 rfl ea24 fa24 (kE_cset (or96 fig11_7453.1 s17 s23 kor3) (by have := kor1; have := kor2; have := kor3; have := kor40; omega) (by have := kor1; have := kor2; have := kor3; have := kor40; omega))
            have s25 : ((ig11 7453) + 1).toInt = (ig11 7453).toInt + (1 : Int32).toInt := kd_add (or98 fig11_7453.1 kor1) (or99 fig11_7453.2 kor1)
            have hJ26 := kG_i hJ24 7453 rfl (v := ((ig11 7453) + 1)) ⟨(or100 fig11_7453.1 s25 kor1), (or101 c16 fig11_7453.2 s17 s25 kor40 kor1)⟩
            have hJ27 := kG_i hJ26 7452 rfl (v := ((ig11 7453) + 1)) ⟨(or100 fig11_7453.1 s25 kor1), (or101 c16 fig11_7453.2 s17 s25 kor40 kor1)⟩
            first | refine fo_goI mi_k142 fz142_150_11_170 [.int vg6] (ku (ku ig11 7453 ((ig11 7453) + 1)) 7452 ((ig11 7453) + 1)) (by rfl) ?_ | refine ft_go mi_k142 11 170 [(4, .int vg6), (0, .ref 116), (1, .int x1), (2, .int x2), (3, .int x3)] [.int vg6] (ku (ku ig11 7453 ((ig11 7453) + 1)) 7452 ((ig11 7453) + 1)) a24 qg11 rg11 (by rfl) ?_
            have bw28 : (kTold (i 7424) x1 x2 ∧ kFit x2 x3) := ⟨(or103 w3 z2), (kFit_0 (or104 w3)).mpr (or105 z5.1 z5.2)⟩
            have bw29 : ¬ ((rGet x1 x2 (a 118, a 117, i 7426, i 7427)).toInt = x3.toInt) := (or106 c10 u9)
            have bw30 : ¬ ((i 7453).toInt = 40) := (or107 c16 efig11_7453 fig11_7453.2 s17 kor40)
            exact ft_ret mi_k142 (by rfl) (hP vg6 _ _ _ _ hJ27 ⟨or102, ⟨⟨(show vg6 = (rMend (i 7424) x1 x2 x3 (a 118, a 117, i 7426, i 7427) (a 133, i 7452, i 7453)).1 from (by unfold rMend; unfold rAdd; simp only [if_pos bw28, if_neg bw29, if_neg bw30]; (try unfold rPut); first | done | rfl | (simp only [q8, sMn, sMx]; done) | (simp only [q8, sMn, sMx]; rfl))), (show a24 118 = ((rMend (i 7424) x1 x2 x3 (a 118, a 117, i 7426, i 7427) (a 133, i 7452, i 7453)).2.1).1 from (by unfold rMend; unfold rAdd; simp only [if_pos bw28, if_neg bw29, if_neg bw30]; (try unfold rPut); first | done | rfl | (simp only [fa24 118 (by decide), fa22 118 (by decide), fa20 118 (by decide), fa18 118 (by decide), q12, sMn, sMx]; done) | (simp only [fa24 118 (by decide), fa22 118 (by decide), fa20 118 (by decide), fa18 118 (by decide), q12, sMn, sMx]; rfl))), (show a24 117 = ((rMend (i 7424) x1 x2 x3 (a 118, a 117, i 7426, i 7427) (a 133, i 7452, i 7453)).2.1).2.1 from (by unfold rMend; unfold rAdd; simp only [if_pos bw28, if_neg bw29, if_neg bw30]; (try unfold rPut); first | done | rfl | (simp only [fa24 117 (by decide), fa22 117 (by decide), fa20 117 (by decide), fa18 117 (by decide), q13, sMn, sMx]; done) | (simp only [fa24 117 (by decide), fa22 117 (by decide), fa20 117 (by decide), fa18 117 (by decide), q13, sMn, sMx]; rfl))), (show ig11 7426 = ((rMend (i 7424) x1 x2 x3 (a 118, a 117, i 7426, i 7427) (a 133, i 7452, i 7453)).2.1).2.2.1 from (by unfold rMend; unfold rAdd; simp only [if_pos bw28, if_neg bw29, if_neg bw30]; (try unfold rPut); first | done | rfl | (simp only [q14, sMn, sMx]; done) | (simp only [q14, sMn, sMx]; rfl))), (show ig11 7427 = ((rMend (i 7424) x1 x2 x3 (a 118, a 117, i 7426, i 7427) (a 133, i 7452, i 7453)).2.1).2.2.2 from (by unfold rMend; unfold rAdd; simp only [if_pos bw28, if_neg bw29, if_neg bw30]; (try unfold rPut); first | done | rfl | (simp only [q15, sMn, sMx]; done) | (simp only [q15, sMn, sMx]; rfl))), (show a24 133 = ((rMend (i 7424) x1 x2 x3 (a 118, a 117, i 7426, i 7427) (a 133, i 7452, i 7453)).2.2).1 from (by unfold rMend; unfold rAdd; simp only [if_pos bw28, if_neg bw29, if_neg bw30]; (try unfold rPut); first | done | rfl | (simp only [ea24, ea22, (show ig11 7453 = i 7453 from kg11.fi 7453 rfl), ea20, q8, ea18, kg11.fa 133 rfl, sMn, sMx]; done) | (simp only [ea24, ea22, (show ig11 7453 = i 7453 from kg11.fi 7453 rfl), ea20, q8, ea18, kg11.fa 133 rfl, sMn, sMx]; rfl))), (show ((ig11 7453) + 1) = ((rMend (i 7424) x1 x2 x3 (a 118, a 117, i 7426, i 7427) (a 133, i 7452, i 7453)).2.2).2.1 from (by unfold rMend; unfold rAdd; simp only [if_pos bw28, if_neg bw29, if_neg bw30]; (try unfold rPut); first | done | rfl | (simp only [(show ig11 7453 = i 7453 from kg11.fi 7453 rfl), sMn, sMx]; done) | (simp only [(show ig11 7453 = i 7453 from kg11.fi 7453 rfl), sMn, sMx]; rfl))), (show ((ig11 7453) + 1) = ((rMend (i 7424) x1 x2 x3 (a 118, a 117, i 7426, i 7427) (a 133, i 7452, i 7453)).2.2).2.2 from (by unfold rMend; unfold rAdd; simp only [if_pos bw28, if_neg bw29, if_neg bw30]; (try unfold rPut); first | done | rfl | (simp only [(show ig11 7453 = i 7453 from kg11.fi 7453 rfl), sMn, sMx]; done) | (simp only [(show ig11 7453 = i 7453 from kg11.fi 7453 rfl), sMn, sMx]; rfl)))⟩, (kChL_cast (kChL_set4 (kChL_cast hE_chg (kg11.fa 133 rfl)) (hGg11.I.2.1 133) (d := (ig11 7453)) (or0 fig11_7453.1) (or113 c16 fig11_7453.2 s17 kor40) (or108 s17) (or109 s17 s19 kor1) (or110 s17 s21 kor2) (or111 s17 s23 kor3) ea18 ea20 ea22 ea24 (or112 w3)) rfl)⟩⟩)
          ·
            have c31 : (ig11 7453).toInt = (40 : Int32).toInt := kd_neF c; clear c
            first | refine fo_goL mi_k142 fz142_52_2_55 [(5, .int 0), (4, .int vg6), (0, .ref 116), (1, .int x1), (2, .int x2), (3, .int x3)] [] (by rfl) ?_ | refine fo_goL mi_k142 fz142_79_2_55 [(5, .int 0), (4, .int vg6), (0, .ref 116), (1, .int x1), (2, .int x2), (3, .int x3)] [] (by rfl) ?_
            have lp32 : ∀ (nz : Nat) (i32 : Nat → Int32) (a32 : Nat → List Int32) (q32 : Nat → List Int64) (r32 : Nat → Nat) (l5_32 : Int32), kG yw142_116_L55 ig11 ag11 qg11 rg11 i32 a32 q32 r32 → ((0 : Int) ≤ l5_32.toInt) ∧ (l5_32.toInt ≤ 156) → kShf (ag11 133) (a32 133) l5_32.toInt.toNat → ((156 - l5_32.toInt)).toNat < nz → ko 7 (mi_h142, mi_c142) P (55, [(5, .int l5_32), (4, .int vg6), (0, .ref 116), (1, .int x1), (2, .int x2), (3, .int x3)], [], (0, 0), ks i32 a32 q32 r32) := by
              intro nz
              induction nz with
              | zero =>
                intro _ _ _ _ _ _ _ _ hm
                exact absurd hm (Nat.not_lt_zero _)
              | succ nz ih32 =>
                intro i32 a32 q32 r32 l5_32 hL32 p32_0 O32_0 hm32
                refine fo_goL mi_k142 fz142_55_2_60 [(5, .int l5_32), (4, .int vg6), (0, .ref 116), (1, .int x1), (2, .int x2), (3, .int x3)] [.int 156, .int l5_32] rfl ?_
                refine ft_ifS mi_k142 (decide (156 ≤ l5_32)) 85 63 [] (by rfl) (fun c => ?_) (fun c => ?_)
                ·
                  have c33 : (156 : Int32).toInt ≤ l5_32.toInt := kd_le c; clear c
                  have hG34 := kG_call hGg11 hL32 (by decide +kernel)
                  have qs35 : a32 133 = rShf (ag11 133) := kShf_eq O32_0 (or114 c33 p32_0.2 kor156) (hGg11.I.2.1 133) (hG34.I.2.1 133)
                  have fi32_7453 : ((0 : Int) ≤ (i32 7453).toInt) ∧ ((i32 7453).toInt ≤ 40) := hG34.I.1 7453
                  have efi32_7453 : (i32 7453).toInt = (ig11 7453).toInt := hL32.ti 7453 rfl
                  have s36 : ((i32 7453) - 1).toInt = (i32 7453).toInt - (1 : Int32).toInt := kd_sub (or115 c31 efi32_7453 kor40 kor1) (or116 fi32_7453.2 kor1)
                  have hJ37 := kG_i hG34 7453 rfl (v := ((i32 7453) - 1)) ⟨(or117 c31 efi32_7453 s36 kor40 kor1), (or118 fi32_7453.2 s36 kor1)⟩
                  have s38 : (4 * ((i32 7453) - 1)).toInt = 4 * ((i32 7453) - 1).toInt := kd_cmul 4 kor4 (or119 fi32_7453.1 s36 kor1) (or120 fi32_7453.2 s36 kor1)
                  first | refine fo_goI mi_k142 fz142_85_13_106 [.int x1, .int (4 * ((i32 7453) - 1)), .ref 133] (ku i32 7453 ((i32 7453) - 1)) (by rfl) ?_ | refine ft_goS mi_k142 13 106 [.int x1, .int (4 * ((i32 7453) - 1)), .ref 133] (by rfl) ?_ | refine ft_go mi_k142 13 106 [(5, .int l5_32), (4, .int vg6), (0, .ref 116), (1, .int x1), (2, .int x2), (3, .int x3)] [.int x1, .int (4 * ((i32 7453) - 1)), .ref 133] (ku i32 7453 ((i32 7453) - 1)) a32 q32 r32 (by rfl) ?_
                  refine ko_iast3 mi_k142.1 (n := 160) (c := 160) (ax := (0, 0, 0, 0, 0)) (mi_k142.2 _ _ (by rfl)) (by rfl) (ksG133 _ _ _ _) (ksA133 _ _ _ _) (hJ37.I.2.1 133) rfl (or121 c31 efi32_7453 s36 s38 kor40 kor1) (or122 fi32_7453.2 s36 s38 kor1) ?_
                  intro a39 ea39 fa39
                  have hJ39 := kG_a3 hJ37 133 rfl ea39 fa39 (kE_cset (or121 c31 efi32_7453 s36 s38 kor40 kor1) (or83 fi_7424.2 w3 z2) (by have := kor1; have := kor40; have := kor156; omega))
                  have s40 : ((4 * ((i32 7453) - 1)) + 1).toInt = (4 * ((i32 7453) - 1)).toInt + (1 : Int32).toInt := kd_add (or123 c31 efi32_7453 s36 s38 kor40 kor1) (or124 fi32_7453.2 s36 s38 kor1)
                  refine fo_goS mi_k142 fz142_107_9_120 [.int x2, .int ((4 * ((i32 7453) - 1)) + 1), .ref 133] rfl ?_
                  refine ko_iast3 mi_k142.1 (n := 160) (c := 160) (ax := (0, 0, 0, 0, 0)) (mi_k142.2 _ _ (by rfl)) (by rfl) (ksG133 _ _ _ _) (ksA133 _ _ _ _) (hJ39.I.2.1 133) rfl (or125 c31 efi32_7453 s36 s38 s40 kor40 kor1) (or126 fi32_7453.2 s36 s38 s40 kor1) ?_
                  intro a41 ea41 fa41
                  have hJ41 := kG_a3 hJ39 133 rfl ea41 fa41 (kE_cset (or125 c31 efi32_7453 s36 s38 s40 kor40 kor1) (or127 c31 efi32_7453 fi32_7453.2 s36 s38 s40 kor40 kor1) (or89 w3))
                  have s42 : ((4 * ((i32 7453) - 1)) + 2).toInt = (4 * ((i32 7453) - 1)).toInt + (2 : Int32).toInt := kd_add (or128 c31 efi32_7453 s36 s38 kor40 kor1 kor2) (or129 fi32_7453.2 s36 s38 kor1 kor2)
                  refine fo_goS mi_k142 fz142_121_9_135 [.int vg6, .int ((4 * ((i32 7453) - 1)) + 2), .ref 133] rfl ?_
                  refine ko_iast3 mi_k142.1 (n := 160) (c := 160) (ax := (0, 0, 0, 0, 0)) (mi_k142.2 _ _ (by rfl)) (by rfl) (ksG133 _ _ _ _) (ksA133 _ _ _ _) (hJ41.I.2.1 133) rfl (or130 c31 efi32_7453 s36 s38 s42 kor40 kor1 kor2) (or131 fi32_7453.2 s36 s38 s42 kor1 kor2) ?_
                  intro a43 ea43 fa43
                  have hJ43 := kG_a3 hJ41 133 rfl ea43 fa43 (kE_cset (or130 c31 efi32_7453 s36 s38 s42 kor40 kor1 kor2) (or132 c31 efi32_7453 fi32_7453.2 s36 s38 s42 kor40 kor1 kor2) (or133 c31 efi32_7453 fi32_7453.2 s36 s38 s42 kor40 kor1 kor2))
                  have s44 : ((4 * ((i32 7453) - 1)) + 3).toInt = (4 * ((i32 7453) - 1)).toInt + (3 : Int32).toInt := kd_add (or134 c31 efi32_7453 s36 s38 kor40 kor1 kor3) (or135 fi32_7453.2 s36 s38 kor1 kor3)
                  refine fo_goS mi_k142 fz142_136_9_149 [.int x3, .int ((4 * ((i32 7453) - 1)) + 3), .ref 133] rfl ?_
                  refine ko_iast3 mi_k142.1 (n := 160) (c := 160) (ax := (0, 0, 0, 0, 0)) (mi_k142.2 _ _ (by rfl)) (by rfl) (ksG133 _ _ _ _) (ksA133 _ _ _ _) (hJ43.I.2.1 133) rfl (or136 c31 efi32_7453 s36 s38 s44 kor40 kor1 kor3) (or137 fi32_7453.2 s36 s38 s44 kor1 kor3) ?_
                  intro a45 ea45 fa45
                  have hJ45 := kG_a3 hJ43 133 rfl ea45 fa45 (kE_cset (or136 c31 efi32_7453 s36 s38 s44 kor40 kor1 kor3) (or138 c31 efi32_7453 fi32_7453.2 s36 s38 s44 kor40 kor1 kor3) (or139 c31 efi32_7453 fi32_7453.2 s36 s38 s44 kor40 kor1 kor3))
                  have s46 : (((i32 7453) - 1) + 1).toInt = ((i32 7453) - 1).toInt + (1 : Int32).toInt := kd_add (or140 fi32_7453.1 s36 kor1) (or141 fi32_7453.2 s36 s38 kor1)
                  have hJ47 := kG_i hJ45 7453 rfl (v := (((i32 7453) - 1) + 1)) ⟨(or142 fi32_7453.1 s36 s46 kor1), (or143 fi32_7453.2 s36 s38 s46 kor1)⟩
                  have hJ48 := kG_i hJ47 7452 rfl (v := (((i32 7453) - 1) + 1)) ⟨(or142 fi32_7453.1 s36 s46 kor1), (or143 fi32_7453.2 s36 s38 s46 kor1)⟩
                  first | refine fo_goI mi_k142 fz142_150_11_170 [.int vg6] (ku (ku (ku i32 7453 ((i32 7453) - 1)) 7453 (((i32 7453) - 1) + 1)) 7452 (((i32 7453) - 1) + 1)) (by rfl) ?_ | refine ft_go mi_k142 11 170 [(5, .int l5_32), (4, .int vg6), (0, .ref 116), (1, .int x1), (2, .int x2), (3, .int x3)] [.int vg6] (ku (ku (ku i32 7453 ((i32 7453) - 1)) 7453 (((i32 7453) - 1) + 1)) 7452 (((i32 7453) - 1) + 1)) a45 q32 r32 (by rfl) ?_
                  have bw49 : (kTold (i 7424) x1 x2 ∧ kFit x2 x3) := ⟨(or103 w3 z2), (kFit_0 (or104 w3)).mpr (or105 z5.1 z5.2)⟩
                  have bw50 : ¬ ((rGet x1 x2 (a 118, a 117, i 7426, i 7427)).toInt = x3.toInt) := (or106 c10 u9)
                  have bw51 : (i 7453).toInt = 40 := (or144 c31 efig11_7453 fi_7453.2 kor40)
                  exact ft_ret mi_k142 (by rfl) (hP vg6 _ _ _ _ hJ48 ⟨or102, ⟨⟨(show vg6 = (rMend (i 7424) x1 x2 x3 (a 118, a 117, i 7426, i 7427) (a 133, i 7452, i 7453)).1 from (by unfold rMend; unfold rAdd; simp only [if_pos bw49, if_neg bw50, if_pos bw51]; (try unfold rPut); first | done | rfl | (simp only [q8, sMn, sMx]; done) | (simp only [q8, sMn, sMx]; rfl))), (show a45 118 = ((rMend (i 7424) x1 x2 x3 (a 118, a 117, i 7426, i 7427) (a 133, i 7452, i 7453)).2.1).1 from (by unfold rMend; unfold rAdd; simp only [if_pos bw49, if_neg bw50, if_pos bw51]; (try unfold rPut); first | done | rfl | (simp only [fa45 118 (by decide), fa43 118 (by decide), fa41 118 (by decide), fa39 118 (by decide), hL32.fa 118 rfl, q12, sMn, sMx]; done) | (simp only [fa45 118 (by decide), fa43 118 (by decide), fa41 118 (by decide), fa39 118 (by decide), hL32.fa 118 rfl, q12, sMn, sMx]; rfl))), (show a45 117 = ((rMend (i 7424) x1 x2 x3 (a 118, a 117, i 7426, i 7427) (a 133, i 7452, i 7453)).2.1).2.1 from (by unfold rMend; unfold rAdd; simp only [if_pos bw49, if_neg bw50, if_pos bw51]; (try unfold rPut); first | done | rfl | (simp only [fa45 117 (by decide), fa43 117 (by decide), fa41 117 (by decide), fa39 117 (by decide), hL32.fa 117 rfl, q13, sMn, sMx]; done) | (simp only [fa45 117 (by decide), fa43 117 (by decide), fa41 117 (by decide), fa39 117 (by decide), hL32.fa 117 rfl, q13, sMn, sMx]; rfl))), (show i32 7426 = ((rMend (i 7424) x1 x2 x3 (a 118, a 117, i 7426, i 7427) (a 133, i 7452, i 7453)).2.1).2.2.1 from (by unfold rMend; unfold rAdd; simp only [if_pos bw49, if_neg bw50, if_pos bw51]; (try unfold rPut); first | done | rfl | (simp only [(show i32 7426 = ig11 7426 from hL32.fi 7426 rfl), q14, sMn, sMx]; done) | (simp only [(show i32 7426 = ig11 7426 from hL32.fi 7426 rfl), q14, sMn, sMx]; rfl))), (show i32 7427 = ((rMend (i 7424) x1 x2 x3 (a 118, a 117, i 7426, i 7427) (a 133, i 7452, i 7453)).2.1).2.2.2 from (by unfold rMend; unfold rAdd; simp only [if_pos bw49, if_neg bw50, if_pos bw51]; (try unfold rPut); first | done | rfl | (simp only [(show i32 7427 = ig11 7427 from hL32.fi 7427 rfl), q15, sMn, sMx]; done) | (simp only [(show i32 7427 = ig11 7427 from hL32.fi 7427 rfl), q15, sMn, sMx]; rfl))), (show a45 133 = ((rMend (i 7424) x1 x2 x3 (a 118, a 117, i 7426, i 7427) (a 133, i 7452, i 7453)).2.2).1 from (by unfold rMend; unfold rAdd; simp only [if_pos bw49, if_neg bw50, if_pos bw51]; (try unfold rPut); first | done | rfl | (simp only [ea45, ea43, (show i32 7453 = ig11 7453 from hL32.fi 7453 rfl), (show ig11 7453 = i 7453 from kg11.fi 7453 rfl), ea41, q8, ea39, qs35, kg11.fa 133 rfl, sMn, sMx]; done) | (simp only [ea45, ea43, (show i32 7453 = ig11 7453 from hL32.fi 7453 rfl), (show ig11 7453 = i 7453 from kg11.fi 7453 rfl), ea41, q8, ea39, qs35, kg11.fa 133 rfl, sMn, sMx]; rfl))), (show (((i32 7453) - 1) + 1) = ((rMend (i 7424) x1 x2 x3 (a 118, a 117, i 7426, i 7427) (a 133, i 7452, i 7453)).2.2).2.1 from (by unfold rMend; unfold rAdd; simp only [if_pos bw49, if_neg bw50, if_pos bw51]; (try unfold rPut); first | done | rfl | (simp only [(show i32 7453 = ig11 7453 from hL32.fi 7453 rfl), (show ig11 7453 = i 7453 from kg11.fi 7453 rfl), sMn, sMx]; done) | (simp only [(show i32 7453 = ig11 7453 from hL32.fi 7453 rfl), (show ig11 7453 = i 7453 from kg11.fi 7453 rfl), sMn, sMx]; rfl))), (show (((i32 7453) - 1) + 1) = ((rMend (i 7424) x1 x2 x3 (a 118, a 117, i 7426, i 7427) (a 133, i 7452, i 7453)).2.2).2.2 from (by unfold rMend; unfold rAdd; simp only [if_pos bw49, if_neg bw50, if_pos bw51]; (try unfold rPut); first | done | rfl | (simp only [(show i32 7453 = ig11 7453 from hL32.fi 7453 rfl), (show ig11 7453 = i 7453 from kg11.fi 7453 rfl), sMn, sMx]; done) | (simp only [(show i32 7453 = ig11 7453 from hL32.fi 7453 rfl), (show ig11 7453 = i 7453 from kg11.fi 7453 rfl), sMn, sMx]; rfl)))⟩, (kChL_cast (kChL_set4 (kChL_cast (kShf_end O32_0 (or114 c33 p32_0.2 kor156) (hL32.I.2.1 133) (kChL_cast hE_chg (kg11.fa 133 rfl))) rfl) (hJ37.I.2.1 133) (d := ((i32 7453) - 1)) (or117 c31 efi32_7453 s36 kor40 kor1) (or145 fi32_7453.2 s36 s38 kor1) (or108 s38) (or109 s38 s40 kor1) (or110 s38 s42 kor2) (or111 s38 s44 kor3) ea39 ea41 ea43 ea45 (or112 w3)) rfl)⟩⟩)
                ·
                  have c52 : l5_32.toInt < (156 : Int32).toInt := kd_leF c; clear c
                  have s53 : (l5_32 + 4).toInt = l5_32.toInt + (4 : Int32).toInt := kd_add (or146 p32_0.1 kor4) (or147 p32_0.2 kor4)
                  refine fo_goS mi_k142 fz142_63_8_77 [.int (l5_32 + 4), .ref 133, .int l5_32, .ref 133] rfl ?_
                  refine ko_iald3 mi_k142.1 (n := 160) (c := 160) (ax := (0, 0, 0, 0, 0)) (mi_k142.2 _ _ (by rfl)) (by rfl) (ksG133 _ _ _ _) (hL32.I.2.1 133) rfl (or148 p32_0.1 s53 kor4) (or149 c52 s53 kor156 kor4) ?_
                  have r54 : ((((l5_32 + 4).toInt % 4) = 0 → (0 : Int) ≤ ((a32 133).getD (l5_32 + 4).toNatClampNeg 0).toInt ∧ ((a32 133).getD (l5_32 + 4).toNatClampNeg 0).toInt ≤ 7)) ∧ ((((l5_32 + 4).toInt % 4) = 1 → (0 : Int) ≤ ((a32 133).getD (l5_32 + 4).toNatClampNeg 0).toInt ∧ ((a32 133).getD (l5_32 + 4).toNatClampNeg 0).toInt ≤ 6)) := kE_ccond hL32.I (j := (l5_32 + 4)) (or148 p32_0.1 s53 kor4)
                  refine ko_iast3 mi_k142.1 (n := 160) (c := 160) (ax := (0, 0, 0, 0, 0)) (mi_k142.2 _ _ (by rfl)) (by rfl) (ksG133 _ _ _ _) (ksA133 _ _ _ _) (hL32.I.2.1 133) rfl (or0 p32_0.1) (or150 p32_0.2) ?_
                  intro a55 ea55 fa55
                  have hJ55 := kG_a3 hL32 133 rfl ea55 fa55 (kE_cset (or0 p32_0.1) (by have := kor4; have := kor40; have := kor156; omega) (by have := kor4; have := kor40; have := kor156; omega))
                  have s56 : (l5_32 + 1).toInt = l5_32.toInt + (1 : Int32).toInt := kd_add (or98 p32_0.1 kor1) (or151 p32_0.2 kor1)
                  first | refine fo_goL mi_k142 fz142_52_2_55 [(5, .int (l5_32 + 1)), (4, .int vg6), (0, .ref 116), (1, .int x1), (2, .int x2), (3, .int x3)] [] (by rfl) ?_ | refine fo_goL mi_k142 fz142_79_2_55 [(5, .int (l5_32 + 1)), (4, .int vg6), (0, .ref 116), (1, .int x1), (2, .int x2), (3, .int x3)] [] (by rfl) ?_
                  exact ih32 _ _ _ _ _ hJ55 (or152 c52 p32_0.1 s56 kor156 kor1) (kShf_step O32_0 (hL32.I.2.1 133) (or0 p32_0.1) (or153 c52 kor156) (or154 s53 kor4) (or155 s56 kor1) ea55 rfl) (kj_meas (or156 s56 kor1) (or157 c52 kor156) hm32)
            exact lp32 _ _ _ _ _ _ (kG_self _ hGg11.I hGg11.R) (or158 kor0) (kShf_start rfl kn0) (Nat.lt_succ_self _)
        ·
          have c57 : vg6.toInt = x3.toInt := kd_neF c; clear c
          refine fo_goS mi_k142 fz142_33_1_35 [.int vg6] rfl ?_
          have bw58 : (kTold (i 7424) x1 x2 ∧ kFit x2 x3) := ⟨(or103 w3 z2), (kFit_0 (or104 w3)).mpr (or105 z5.1 z5.2)⟩
          have bw59 : (rGet x1 x2 (a 118, a 117, i 7426, i 7427)).toInt = x3.toInt := (or160 c57 u9)
          exact ft_ret mi_k142 (by rfl) (hP vg6 _ _ _ _ hG ⟨(or159 hp0), ⟨⟨(show vg6 = (rMend (i 7424) x1 x2 x3 (a 118, a 117, i 7426, i 7427) (a 133, i 7452, i 7453)).1 from (by unfold rMend; simp only [if_pos bw58, if_pos bw59]; first | done | rfl | (simp only [q8, sMn, sMx]; done) | (simp only [q8, sMn, sMx]; rfl))), (show a 118 = ((rMend (i 7424) x1 x2 x3 (a 118, a 117, i 7426, i 7427) (a 133, i 7452, i 7453)).2.1).1 from (by unfold rMend; simp only [if_pos bw58, if_pos bw59]; first | done | rfl | (simp only [sMn, sMx]; done) | (simp only [sMn, sMx]; rfl))), (show a 117 = ((rMend (i 7424) x1 x2 x3 (a 118, a 117, i 7426, i 7427) (a 133, i 7452, i 7453)).2.1).2.1 from (by unfold rMend; simp only [if_pos bw58, if_pos bw59]; first | done | rfl | (simp only [sMn, sMx]; done) | (simp only [sMn, sMx]; rfl))), (show i 7426 = ((rMend (i 7424) x1 x2 x3 (a 118, a 117, i 7426, i 7427) (a 133, i 7452, i 7453)).2.1).2.2.1 from (by unfold rMend; simp only [if_pos bw58, if_pos bw59]; first | done | rfl | (simp only [sMn, sMx]; done) | (simp only [sMn, sMx]; rfl))), (show i 7427 = ((rMend (i 7424) x1 x2 x3 (a 118, a 117, i 7426, i 7427) (a 133, i 7452, i 7453)).2.1).2.2.2 from (by unfold rMend; simp only [if_pos bw58, if_pos bw59]; first | done | rfl | (simp only [sMn, sMx]; done) | (simp only [sMn, sMx]; rfl))), (show a 133 = ((rMend (i 7424) x1 x2 x3 (a 118, a 117, i 7426, i 7427) (a 133, i 7452, i 7453)).2.2).1 from (by unfold rMend; simp only [if_pos bw58, if_pos bw59]; first | done | rfl | (simp only [sMn, sMx]; done) | (simp only [sMn, sMx]; rfl))), (show i 7452 = ((rMend (i 7424) x1 x2 x3 (a 118, a 117, i 7426, i 7427) (a 133, i 7452, i 7453)).2.2).2.1 from (by unfold rMend; simp only [if_pos bw58, if_pos bw59]; first | done | rfl | (simp only [sMn, sMx]; done) | (simp only [sMn, sMx]; rfl))), (show i 7453 = ((rMend (i 7424) x1 x2 x3 (a 118, a 117, i 7426, i 7427) (a 133, i 7452, i 7453)).2.2).2.2 from (by unfold rMend; simp only [if_pos bw58, if_pos bw59]; first | done | rfl | (simp only [sMn, sMx]; done) | (simp only [sMn, sMx]; rfl)))⟩, (kChL_cast hE_chg rfl)⟩⟩)
      ·
        subst eg4
        have z60 : ¬ (((0 : Int) ≤ x3.toInt) ∧ (x3.toInt ≤ 999)) := hg4
        first | refine fo_goS mi_k142 fz142_6_2_18 [.int (-1)] (by rfl) ?_ | refine fo_goS mi_k142 fz142_14_2_18 [.int (-1)] (by rfl) ?_
        have bw61 : ¬ (kTold (i 7424) x1 x2 ∧ kFit x2 x3) := (fun z => absurd ((kFit_0 (or104 w3)).mp z.2) (or161 z60))
        exact ft_ret mi_k142 (by rfl) (hP (-1) _ _ _ _ hG ⟨(or159 hp0), ⟨⟨(show ((-1) : Int32) = (rMend (i 7424) x1 x2 x3 (a 118, a 117, i 7426, i 7427) (a 133, i 7452, i 7453)).1 from (by unfold rMend; simp only [if_neg bw61]; first | done | rfl | (simp only [sMn, sMx]; done) | (simp only [sMn, sMx]; rfl))), (show a 118 = ((rMend (i 7424) x1 x2 x3 (a 118, a 117, i 7426, i 7427) (a 133, i 7452, i 7453)).2.1).1 from (by unfold rMend; simp only [if_neg bw61]; first | done | rfl | (simp only [sMn, sMx]; done) | (simp only [sMn, sMx]; rfl))), (show a 117 = ((rMend (i 7424) x1 x2 x3 (a 118, a 117, i 7426, i 7427) (a 133, i 7452, i 7453)).2.1).2.1 from (by unfold rMend; simp only [if_neg bw61]; first | done | rfl | (simp only [sMn, sMx]; done) | (simp only [sMn, sMx]; rfl))), (show i 7426 = ((rMend (i 7424) x1 x2 x3 (a 118, a 117, i 7426, i 7427) (a 133, i 7452, i 7453)).2.1).2.2.1 from (by unfold rMend; simp only [if_neg bw61]; first | done | rfl | (simp only [sMn, sMx]; done) | (simp only [sMn, sMx]; rfl))), (show i 7427 = ((rMend (i 7424) x1 x2 x3 (a 118, a 117, i 7426, i 7427) (a 133, i 7452, i 7453)).2.1).2.2.2 from (by unfold rMend; simp only [if_neg bw61]; first | done | rfl | (simp only [sMn, sMx]; done) | (simp only [sMn, sMx]; rfl))), (show a 133 = ((rMend (i 7424) x1 x2 x3 (a 118, a 117, i 7426, i 7427) (a 133, i 7452, i 7453)).2.2).1 from (by unfold rMend; simp only [if_neg bw61]; first | done | rfl | (simp only [sMn, sMx]; done) | (simp only [sMn, sMx]; rfl))), (show i 7452 = ((rMend (i 7424) x1 x2 x3 (a 118, a 117, i 7426, i 7427) (a 133, i 7452, i 7453)).2.2).2.1 from (by unfold rMend; simp only [if_neg bw61]; first | done | rfl | (simp only [sMn, sMx]; done) | (simp only [sMn, sMx]; rfl))), (show i 7453 = ((rMend (i 7424) x1 x2 x3 (a 118, a 117, i 7426, i 7427) (a 133, i 7452, i 7453)).2.2).2.2 from (by unfold rMend; simp only [if_neg bw61]; first | done | rfl | (simp only [sMn, sMx]; done) | (simp only [sMn, sMx]; rfl)))⟩, (kChL_cast hE_chg rfl)⟩⟩)
    by_cases w62 : x2.toInt = 1
    ·
      refine ko_eq (x1 := (11, [(0, .ref 116), (1, .int x1), (2, .int x2), (3, .int x3)], [.int x3, .int 1], (0, 0), ks i a q r)) (by rw [(kj_eq w62 (by decide) : x2 = 1)]) ?_
      refine ko_callPI mi_k142.1 (pc := 11) (ls := [(0, .ref 116), (1, .int x1), (2, .int x2), (3, .int x3)]) (st := [.int x3, .int 1]) (h := ks i a q r) (i := (.invokestatic 144, 3, 139, 0, 9, 0, 388)) (mi_k142.2 _ _ (by rfl)) (ft_invS mi_pq139 (by rfl)) (cy := mi_c139) mi_pq139 rfl (ke139_l01 hG.I hG.R x3) (by decide) ?_
      intro vg63 hg63
      rcases hg63 with ⟨eg63, hg63⟩ | ⟨eg63, hg63⟩
      ·
        subst eg63
        have z64 : ((0 : Int) ≤ x3.toInt) ∧ (x3.toInt ≤ 9) := hg63
        refine fo_goS mi_k142 fz142_14_4_22 [.int x2, .int x1, .ref 116] rfl ?_
        refine ko_callPI mi_k142.1 (pc := 22) (ls := [(0, .ref 116), (1, .int x1), (2, .int x2), (3, .int x3)]) (st := [.int x2, .int x1, .ref 116]) (h := ks i a q r) (i := (.invokevirtual 147, 3, 140, 0, 9, 0, 389)) (mi_k142.2 _ _ (by rfl)) (ft_invS mi_pq140 (by rfl)) (cy := mi_c140) mi_pq140 rfl (ke140_116 hG.I hG.R x1 x2 (or164 fi_7424.2 w62 z2) (or165 w62)) (by decide) ?_
        intro vg65 hg65
        obtain ⟨hg65, og65⟩ := hg65
        have z66 : ((x2.toInt = 4) → (((1 : Int) ≤ vg65.toInt) ∧ (vg65.toInt ≤ 5))) := hg65
        have q67 : vg65 = rGet x1 x2 (a 118, a 117, i 7426, i 7427) := og65
        have u68 : vg65.toInt = (rGet x1 x2 (a 118, a 117, i 7426, i 7427)).toInt := congrArg Int32.toInt q67
        refine fo_goL mi_k142 fz142_25_3_30 [(4, .int vg65), (0, .ref 116), (1, .int x1), (2, .int x2), (3, .int x3)] [.int x3, .int vg65] rfl ?_
        refine ft_ifS mi_k142 (vg65 != x3) 36 33 [] (by rfl) (fun c => ?_) (fun c => ?_)
        ·
          have c69 : vg65.toInt ≠ x3.toInt := kd_ne c; clear c
          refine fo_goS mi_k142 fz142_36_4_40 [.int x3, .int x2, .int x1, .ref 116] rfl ?_
          refine ko_callN mi_k142.1 (pc := 40) (ls := [(4, .int vg65), (0, .ref 116), (1, .int x1), (2, .int x2), (3, .int x3)]) (st := [.int x3, .int x2, .int x1, .ref 116]) (h := ks i a q r) (i := (.invokevirtual 150, 3, 141, 0, 9, 0, 390)) (mi_k142.2 _ _ (by rfl)) (ft_invS mi_pq141 (by rfl)) (cy := mi_c141) mi_pq141 rfl (ke141_116 hG.I hG.R x1 x2 x3 (or164 fi_7424.2 w62 z2) (or165 w62) (or12 w62)) (by decide) ?_
          intro ig70 ag70 qg70 rg70 kg70 hg70
          have hGg70 := kG_call hG kg70 (by decide +kernel)
          obtain ⟨hg70, og70⟩ := hg70
          have q71 : ag70 118 = (rSet x1 x2 x3 (a 118, a 117, i 7426, i 7427)).1 := og70.1
          have q72 : ag70 117 = (rSet x1 x2 x3 (a 118, a 117, i 7426, i 7427)).2.1 := og70.2.1
          have q73 : ig70 7426 = (rSet x1 x2 x3 (a 118, a 117, i 7426, i 7427)).2.2.1 := og70.2.2.1
          have q74 : ig70 7427 = (rSet x1 x2 x3 (a 118, a 117, i 7426, i 7427)).2.2.2 := og70.2.2.2
          have fig70_7453 : ((0 : Int) ≤ (ig70 7453).toInt) ∧ ((ig70 7453).toInt ≤ 40) := hGg70.I.1 7453
          have efig70_7453 : (ig70 7453).toInt = (i 7453).toInt := kg70.ti 7453 rfl
          refine fo_goS mi_k142 fz142_43_3_49 [.int 40, .int (ig70 7453)] rfl ?_
          refine ft_ifS mi_k142 ((ig70 7453) != 40) 95 52 [] (by rfl) (fun c => ?_) (fun c => ?_)
          ·
            have c75 : (ig70 7453).toInt ≠ (40 : Int32).toInt := kd_ne c; clear c
            have s76 : (4 * (ig70 7453)).toInt = 4 * (ig70 7453).toInt := kd_cmul 4 kor4 (or79 fig70_7453.1) (or80 fig70_7453.2)
            refine fo_goS mi_k142 fz142_95_7_106 [.int x1, .int (4 * (ig70 7453)), .ref 133] rfl ?_
            refine ko_iast3 mi_k142.1 (n := 160) (c := 160) (ax := (0, 0, 0, 0, 0)) (mi_k142.2 _ _ (by rfl)) (by rfl) (ksG133 _ _ _ _) (ksA133 _ _ _ _) (hGg70.I.2.1 133) rfl (or81 fig70_7453.1 s76) (or82 c75 fig70_7453.2 s76 kor40) ?_
            intro a77 ea77 fa77
            have hJ77 := kG_a3 hGg70 133 rfl ea77 fa77 (kE_cset (or81 fig70_7453.1 s76) (or166 fi_7424.2 w62 z2) (by have := kor40; omega))
            have s78 : ((4 * (ig70 7453)) + 1).toInt = (4 * (ig70 7453)).toInt + (1 : Int32).toInt := kd_add (or84 fig70_7453.1 s76 kor1) (or85 fig70_7453.2 s76 kor1)
            refine fo_goS mi_k142 fz142_107_9_120 [.int x2, .int ((4 * (ig70 7453)) + 1), .ref 133] rfl ?_
            refine ko_iast3 mi_k142.1 (n := 160) (c := 160) (ax := (0, 0, 0, 0, 0)) (mi_k142.2 _ _ (by rfl)) (by rfl) (ksG133 _ _ _ _) (ksA133 _ _ _ _) (hJ77.I.2.1 133) rfl (or86 fig70_7453.1 s76 s78 kor1) (or87 c75 fig70_7453.2 s76 s78 kor40 kor1) ?_
            intro a79 ea79 fa79
            have hJ79 := kG_a3 hJ77 133 rfl ea79 fa79 (kE_cset (or86 fig70_7453.1 s76 s78 kor1) (or167 w62) (or168 w62))
            have s80 : ((4 * (ig70 7453)) + 2).toInt = (4 * (ig70 7453)).toInt + (2 : Int32).toInt := kd_add (or90 fig70_7453.1 s76 kor2) (or91 fig70_7453.2 s76 kor2)
            refine fo_goS mi_k142 fz142_121_9_135 [.int vg65, .int ((4 * (ig70 7453)) + 2), .ref 133] rfl ?_
            refine ko_iast3 mi_k142.1 (n := 160) (c := 160) (ax := (0, 0, 0, 0, 0)) (mi_k142.2 _ _ (by rfl)) (by rfl) (ksG133 _ _ _ _) (ksA133 _ _ _ _) (hJ79.I.2.1 133) rfl (or92 fig70_7453.1 s76 s80 kor2) (or93 c75 fig70_7453.2 s76 s80 kor40 kor2) ?_
            intro a81 ea81 fa81
            have hJ81 := kG_a3 hJ79 133 rfl ea81 fa81 (kE_cset (or92 fig70_7453.1 s76 s80 kor2) (by have := kor1; have := kor2; have := kor40; omega) (by have := kor1; have := kor2; have := kor40; omega))
            have s82 : ((4 * (ig70 7453)) + 3).toInt = (4 * (ig70 7453)).toInt + (3 : Int32).toInt := kd_add (or94 fig70_7453.1 s76 kor3) (or95 fig70_7453.2 s76 kor3)
            refine fo_goS mi_k142 fz142_136_9_149 [.int x3, .int ((4 * (ig70 7453)) + 3), .ref 133] rfl ?_
            refine ko_iast3 mi_k142.1 (n := 160) (c := 160) (ax := (0, 0, 0, 0, 0)) (mi_k142.2 _ _ (by rfl)) (by rfl) (ksG133 _ _ _ _) (ksA133 _ _ _ _) (hJ81.I.2.1 133) rfl (or96 fig70_7453.1 s76 s82 kor3) (or97 c75 fig70_7453.2 s76 s82 kor40 kor3) ?_
            intro a83 ea83 fa83
            have hJ83 := kG_a3 hJ81 133 rfl ea83 fa83 (kE_cset (or96 fig70_7453.1 s76 s82 kor3) (by have := kor1; have := kor2; have := kor3; have := kor40; omega) (by have := kor1; have := kor2; have := kor3; have := kor40; omega))
            have s84 : ((ig70 7453) + 1).toInt = (ig70 7453).toInt + (1 : Int32).toInt := kd_add (or98 fig70_7453.1 kor1) (or99 fig70_7453.2 kor1)
            have hJ85 := kG_i hJ83 7453 rfl (v := ((ig70 7453) + 1)) ⟨(or100 fig70_7453.1 s84 kor1), (or101 c75 fig70_7453.2 s76 s84 kor40 kor1)⟩
            have hJ86 := kG_i hJ85 7452 rfl (v := ((ig70 7453) + 1)) ⟨(or100 fig70_7453.1 s84 kor1), (or101 c75 fig70_7453.2 s76 s84 kor40 kor1)⟩
            first | refine fo_goI mi_k142 fz142_150_11_170 [.int vg65] (ku (ku ig70 7453 ((ig70 7453) + 1)) 7452 ((ig70 7453) + 1)) (by rfl) ?_ | refine ft_go mi_k142 11 170 [(4, .int vg65), (0, .ref 116), (1, .int x1), (2, .int x2), (3, .int x3)] [.int vg65] (ku (ku ig70 7453 ((ig70 7453) + 1)) 7452 ((ig70 7453) + 1)) a83 qg70 rg70 (by rfl) ?_
            have bw87 : (kTold (i 7424) x1 x2 ∧ kFit x2 x3) := ⟨(or169 w62 z2), (kFit_1 (or170 w62)).mpr (or171 z64.1 z64.2)⟩
            have bw88 : ¬ ((rGet x1 x2 (a 118, a 117, i 7426, i 7427)).toInt = x3.toInt) := (or106 c69 u68)
            have bw89 : ¬ ((i 7453).toInt = 40) := (or107 c75 efig70_7453 fig70_7453.2 s76 kor40)
            exact ft_ret mi_k142 (by rfl) (hP vg65 _ _ _ _ hJ86 ⟨or102, ⟨⟨(show vg65 = (rMend (i 7424) x1 x2 x3 (a 118, a 117, i 7426, i 7427) (a 133, i 7452, i 7453)).1 from (by unfold rMend; unfold rAdd; simp only [if_pos bw87, if_neg bw88, if_neg bw89]; (try unfold rPut); first | done | rfl | (simp only [q67, sMn, sMx]; done) | (simp only [q67, sMn, sMx]; rfl))), (show a83 118 = ((rMend (i 7424) x1 x2 x3 (a 118, a 117, i 7426, i 7427) (a 133, i 7452, i 7453)).2.1).1 from (by unfold rMend; unfold rAdd; simp only [if_pos bw87, if_neg bw88, if_neg bw89]; (try unfold rPut); first | done | rfl | (simp only [fa83 118 (by decide), fa81 118 (by decide), fa79 118 (by decide), fa77 118 (by decide), q71, sMn, sMx]; done) | (simp only [fa83 118 (by decide), fa81 118 (by decide), fa79 118 (by decide), fa77 118 (by decide), q71, sMn, sMx]; rfl))), (show a83 117 = ((rMend (i 7424) x1 x2 x3 (a 118, a 117, i 7426, i 7427) (a 133, i 7452, i 7453)).2.1).2.1 from (by unfold rMend; unfold rAdd; simp only [if_pos bw87, if_neg bw88, if_neg bw89]; (try unfold rPut); first | done | rfl | (simp only [fa83 117 (by decide), fa81 117 (by decide), fa79 117 (by decide), fa77 117 (by decide), q72, sMn, sMx]; done) | (simp only [fa83 117 (by decide), fa81 117 (by decide), fa79 117 (by decide), fa77 117 (by decide), q72, sMn, sMx]; rfl))), (show ig70 7426 = ((rMend (i 7424) x1 x2 x3 (a 118, a 117, i 7426, i 7427) (a 133, i 7452, i 7453)).2.1).2.2.1 from (by unfold rMend; unfold rAdd; simp only [if_pos bw87, if_neg bw88, if_neg bw89]; (try unfold rPut); first | done | rfl | (simp only [q73, sMn, sMx]; done) | (simp only [q73, sMn, sMx]; rfl))), (show ig70 7427 = ((rMend (i 7424) x1 x2 x3 (a 118, a 117, i 7426, i 7427) (a 133, i 7452, i 7453)).2.1).2.2.2 from (by unfold rMend; unfold rAdd; simp only [if_pos bw87, if_neg bw88, if_neg bw89]; (try unfold rPut); first | done | rfl | (simp only [q74, sMn, sMx]; done) | (simp only [q74, sMn, sMx]; rfl))), (show a83 133 = ((rMend (i 7424) x1 x2 x3 (a 118, a 117, i 7426, i 7427) (a 133, i 7452, i 7453)).2.2).1 from (by unfold rMend; unfold rAdd; simp only [if_pos bw87, if_neg bw88, if_neg bw89]; (try unfold rPut); first | done | rfl | (simp only [ea83, ea81, (show ig70 7453 = i 7453 from kg70.fi 7453 rfl), ea79, q67, ea77, kg70.fa 133 rfl, sMn, sMx]; done) | (simp only [ea83, ea81, (show ig70 7453 = i 7453 from kg70.fi 7453 rfl), ea79, q67, ea77, kg70.fa 133 rfl, sMn, sMx]; rfl))), (show ((ig70 7453) + 1) = ((rMend (i 7424) x1 x2 x3 (a 118, a 117, i 7426, i 7427) (a 133, i 7452, i 7453)).2.2).2.1 from (by unfold rMend; unfold rAdd; simp only [if_pos bw87, if_neg bw88, if_neg bw89]; (try unfold rPut); first | done | rfl | (simp only [(show ig70 7453 = i 7453 from kg70.fi 7453 rfl), sMn, sMx]; done) | (simp only [(show ig70 7453 = i 7453 from kg70.fi 7453 rfl), sMn, sMx]; rfl))), (show ((ig70 7453) + 1) = ((rMend (i 7424) x1 x2 x3 (a 118, a 117, i 7426, i 7427) (a 133, i 7452, i 7453)).2.2).2.2 from (by unfold rMend; unfold rAdd; simp only [if_pos bw87, if_neg bw88, if_neg bw89]; (try unfold rPut); first | done | rfl | (simp only [(show ig70 7453 = i 7453 from kg70.fi 7453 rfl), sMn, sMx]; done) | (simp only [(show ig70 7453 = i 7453 from kg70.fi 7453 rfl), sMn, sMx]; rfl)))⟩, (kChL_cast (kChL_set4 (kChL_cast hE_chg (kg70.fa 133 rfl)) (hGg70.I.2.1 133) (d := (ig70 7453)) (or0 fig70_7453.1) (or113 c75 fig70_7453.2 s76 kor40) (or108 s76) (or109 s76 s78 kor1) (or110 s76 s80 kor2) (or111 s76 s82 kor3) ea77 ea79 ea81 ea83 (or172 w62)) rfl)⟩⟩)
          ·
            have c90 : (ig70 7453).toInt = (40 : Int32).toInt := kd_neF c; clear c
            first | refine fo_goL mi_k142 fz142_52_2_55 [(5, .int 0), (4, .int vg65), (0, .ref 116), (1, .int x1), (2, .int x2), (3, .int x3)] [] (by rfl) ?_ | refine fo_goL mi_k142 fz142_79_2_55 [(5, .int 0), (4, .int vg65), (0, .ref 116), (1, .int x1), (2, .int x2), (3, .int x3)] [] (by rfl) ?_
            have lp91 : ∀ (nz : Nat) (i91 : Nat → Int32) (a91 : Nat → List Int32) (q91 : Nat → List Int64) (r91 : Nat → Nat) (l5_91 : Int32), kG yw142_116_L55 ig70 ag70 qg70 rg70 i91 a91 q91 r91 → ((0 : Int) ≤ l5_91.toInt) ∧ (l5_91.toInt ≤ 156) → kShf (ag70 133) (a91 133) l5_91.toInt.toNat → ((156 - l5_91.toInt)).toNat < nz → ko 7 (mi_h142, mi_c142) P (55, [(5, .int l5_91), (4, .int vg65), (0, .ref 116), (1, .int x1), (2, .int x2), (3, .int x3)], [], (0, 0), ks i91 a91 q91 r91) := by
              intro nz
              induction nz with
              | zero =>
                intro _ _ _ _ _ _ _ _ hm
                exact absurd hm (Nat.not_lt_zero _)
              | succ nz ih91 =>
                intro i91 a91 q91 r91 l5_91 hL91 p91_0 O91_0 hm91
                refine fo_goL mi_k142 fz142_55_2_60 [(5, .int l5_91), (4, .int vg65), (0, .ref 116), (1, .int x1), (2, .int x2), (3, .int x3)] [.int 156, .int l5_91] rfl ?_
                refine ft_ifS mi_k142 (decide (156 ≤ l5_91)) 85 63 [] (by rfl) (fun c => ?_) (fun c => ?_)
                ·
                  have c92 : (156 : Int32).toInt ≤ l5_91.toInt := kd_le c; clear c
                  have hG93 := kG_call hGg70 hL91 (by decide +kernel)
                  have qs94 : a91 133 = rShf (ag70 133) := kShf_eq O91_0 (or114 c92 p91_0.2 kor156) (hGg70.I.2.1 133) (hG93.I.2.1 133)
                  have fi91_7453 : ((0 : Int) ≤ (i91 7453).toInt) ∧ ((i91 7453).toInt ≤ 40) := hG93.I.1 7453
                  have efi91_7453 : (i91 7453).toInt = (ig70 7453).toInt := hL91.ti 7453 rfl
                  have s95 : ((i91 7453) - 1).toInt = (i91 7453).toInt - (1 : Int32).toInt := kd_sub (or115 c90 efi91_7453 kor40 kor1) (or116 fi91_7453.2 kor1)
                  have hJ96 := kG_i hG93 7453 rfl (v := ((i91 7453) - 1)) ⟨(or117 c90 efi91_7453 s95 kor40 kor1), (or118 fi91_7453.2 s95 kor1)⟩
                  have s97 : (4 * ((i91 7453) - 1)).toInt = 4 * ((i91 7453) - 1).toInt := kd_cmul 4 kor4 (or119 fi91_7453.1 s95 kor1) (or120 fi91_7453.2 s95 kor1)
                  first | refine fo_goI mi_k142 fz142_85_13_106 [.int x1, .int (4 * ((i91 7453) - 1)), .ref 133] (ku i91 7453 ((i91 7453) - 1)) (by rfl) ?_ | refine ft_goS mi_k142 13 106 [.int x1, .int (4 * ((i91 7453) - 1)), .ref 133] (by rfl) ?_ | refine ft_go mi_k142 13 106 [(5, .int l5_91), (4, .int vg65), (0, .ref 116), (1, .int x1), (2, .int x2), (3, .int x3)] [.int x1, .int (4 * ((i91 7453) - 1)), .ref 133] (ku i91 7453 ((i91 7453) - 1)) a91 q91 r91 (by rfl) ?_
                  refine ko_iast3 mi_k142.1 (n := 160) (c := 160) (ax := (0, 0, 0, 0, 0)) (mi_k142.2 _ _ (by rfl)) (by rfl) (ksG133 _ _ _ _) (ksA133 _ _ _ _) (hJ96.I.2.1 133) rfl (or121 c90 efi91_7453 s95 s97 kor40 kor1) (or122 fi91_7453.2 s95 s97 kor1) ?_
                  intro a98 ea98 fa98
                  have hJ98 := kG_a3 hJ96 133 rfl ea98 fa98 (kE_cset (or121 c90 efi91_7453 s95 s97 kor40 kor1) (or166 fi_7424.2 w62 z2) (by have := kor1; have := kor40; have := kor156; omega))
                  have s99 : ((4 * ((i91 7453) - 1)) + 1).toInt = (4 * ((i91 7453) - 1)).toInt + (1 : Int32).toInt := kd_add (or123 c90 efi91_7453 s95 s97 kor40 kor1) (or124 fi91_7453.2 s95 s97 kor1)
                  refine fo_goS mi_k142 fz142_107_9_120 [.int x2, .int ((4 * ((i91 7453) - 1)) + 1), .ref 133] rfl ?_
                  refine ko_iast3 mi_k142.1 (n := 160) (c := 160) (ax := (0, 0, 0, 0, 0)) (mi_k142.2 _ _ (by rfl)) (by rfl) (ksG133 _ _ _ _) (ksA133 _ _ _ _) (hJ98.I.2.1 133) rfl (or125 c90 efi91_7453 s95 s97 s99 kor40 kor1) (or126 fi91_7453.2 s95 s97 s99 kor1) ?_
                  intro a100 ea100 fa100
                  have hJ100 := kG_a3 hJ98 133 rfl ea100 fa100 (kE_cset (or125 c90 efi91_7453 s95 s97 s99 kor40 kor1) (or127 c90 efi91_7453 fi91_7453.2 s95 s97 s99 kor40 kor1) (or168 w62))
                  have s101 : ((4 * ((i91 7453) - 1)) + 2).toInt = (4 * ((i91 7453) - 1)).toInt + (2 : Int32).toInt := kd_add (or128 c90 efi91_7453 s95 s97 kor40 kor1 kor2) (or129 fi91_7453.2 s95 s97 kor1 kor2)
                  refine fo_goS mi_k142 fz142_121_9_135 [.int vg65, .int ((4 * ((i91 7453) - 1)) + 2), .ref 133] rfl ?_
                  refine ko_iast3 mi_k142.1 (n := 160) (c := 160) (ax := (0, 0, 0, 0, 0)) (mi_k142.2 _ _ (by rfl)) (by rfl) (ksG133 _ _ _ _) (ksA133 _ _ _ _) (hJ100.I.2.1 133) rfl (or173 c90 efi91_7453 s101 s95 s97 kor40 kor2 kor1) (or174 fi91_7453.2 s101 s95 s97 kor2 kor1) ?_
                  intro a102 ea102 fa102
                  have hJ102 := kG_a3 hJ100 133 rfl ea102 fa102 (kE_cset (or173 c90 efi91_7453 s101 s95 s97 kor40 kor2 kor1) (or175 c90 efi91_7453 fi91_7453.2 s101 s95 s97 kor40 kor2 kor1) (or176 c90 efi91_7453 fi91_7453.2 s101 s95 s97 kor40 kor2 kor1))
                  have s103 : ((4 * ((i91 7453) - 1)) + 3).toInt = (4 * ((i91 7453) - 1)).toInt + (3 : Int32).toInt := kd_add (or134 c90 efi91_7453 s95 s97 kor40 kor1 kor3) (or135 fi91_7453.2 s95 s97 kor1 kor3)
                  refine fo_goS mi_k142 fz142_136_9_149 [.int x3, .int ((4 * ((i91 7453) - 1)) + 3), .ref 133] rfl ?_
                  refine ko_iast3 mi_k142.1 (n := 160) (c := 160) (ax := (0, 0, 0, 0, 0)) (mi_k142.2 _ _ (by rfl)) (by rfl) (ksG133 _ _ _ _) (ksA133 _ _ _ _) (hJ102.I.2.1 133) rfl (or177 c90 efi91_7453 s103 s95 s97 kor40 kor3 kor1) (or178 fi91_7453.2 s103 s95 s97 kor3 kor1) ?_
                  intro a104 ea104 fa104
                  have hJ104 := kG_a3 hJ102 133 rfl ea104 fa104 (kE_cset (or177 c90 efi91_7453 s103 s95 s97 kor40 kor3 kor1) (or179 c90 efi91_7453 fi91_7453.2 s103 s95 s97 kor40 kor3 kor1) (or180 c90 efi91_7453 fi91_7453.2 s103 s95 s97 kor40 kor3 kor1))
                  have s105 : (((i91 7453) - 1) + 1).toInt = ((i91 7453) - 1).toInt + (1 : Int32).toInt := kd_add (or140 fi91_7453.1 s95 kor1) (or141 fi91_7453.2 s95 s97 kor1)
                  have hJ106 := kG_i hJ104 7453 rfl (v := (((i91 7453) - 1) + 1)) ⟨(or181 fi91_7453.1 s105 s95 kor1), (or182 fi91_7453.2 s105 s95 s97 kor1)⟩
                  have hJ107 := kG_i hJ106 7452 rfl (v := (((i91 7453) - 1) + 1)) ⟨(or181 fi91_7453.1 s105 s95 kor1), (or182 fi91_7453.2 s105 s95 s97 kor1)⟩
                  first | refine fo_goI mi_k142 fz142_150_11_170 [.int vg65] (ku (ku (ku i91 7453 ((i91 7453) - 1)) 7453 (((i91 7453) - 1) + 1)) 7452 (((i91 7453) - 1) + 1)) (by rfl) ?_ | refine ft_go mi_k142 11 170 [(5, .int l5_91), (4, .int vg65), (0, .ref 116), (1, .int x1), (2, .int x2), (3, .int x3)] [.int vg65] (ku (ku (ku i91 7453 ((i91 7453) - 1)) 7453 (((i91 7453) - 1) + 1)) 7452 (((i91 7453) - 1) + 1)) a104 q91 r91 (by rfl) ?_
                  have bw108 : (kTold (i 7424) x1 x2 ∧ kFit x2 x3) := ⟨(or169 w62 z2), (kFit_1 (or170 w62)).mpr (or171 z64.1 z64.2)⟩
                  have bw109 : ¬ ((rGet x1 x2 (a 118, a 117, i 7426, i 7427)).toInt = x3.toInt) := (or106 c69 u68)
                  have bw110 : (i 7453).toInt = 40 := (or144 c90 efig70_7453 fi_7453.2 kor40)
                  exact ft_ret mi_k142 (by rfl) (hP vg65 _ _ _ _ hJ107 ⟨or102, ⟨⟨(show vg65 = (rMend (i 7424) x1 x2 x3 (a 118, a 117, i 7426, i 7427) (a 133, i 7452, i 7453)).1 from (by unfold rMend; unfold rAdd; simp only [if_pos bw108, if_neg bw109, if_pos bw110]; (try unfold rPut); first | done | rfl | (simp only [q67, sMn, sMx]; done) | (simp only [q67, sMn, sMx]; rfl))), (show a104 118 = ((rMend (i 7424) x1 x2 x3 (a 118, a 117, i 7426, i 7427) (a 133, i 7452, i 7453)).2.1).1 from (by unfold rMend; unfold rAdd; simp only [if_pos bw108, if_neg bw109, if_pos bw110]; (try unfold rPut); first | done | rfl | (simp only [fa104 118 (by decide), fa102 118 (by decide), fa100 118 (by decide), fa98 118 (by decide), hL91.fa 118 rfl, q71, sMn, sMx]; done) | (simp only [fa104 118 (by decide), fa102 118 (by decide), fa100 118 (by decide), fa98 118 (by decide), hL91.fa 118 rfl, q71, sMn, sMx]; rfl))), (show a104 117 = ((rMend (i 7424) x1 x2 x3 (a 118, a 117, i 7426, i 7427) (a 133, i 7452, i 7453)).2.1).2.1 from (by unfold rMend; unfold rAdd; simp only [if_pos bw108, if_neg bw109, if_pos bw110]; (try unfold rPut); first | done | rfl | (simp only [fa104 117 (by decide), fa102 117 (by decide), fa100 117 (by decide), fa98 117 (by decide), hL91.fa 117 rfl, q72, sMn, sMx]; done) | (simp only [fa104 117 (by decide), fa102 117 (by decide), fa100 117 (by decide), fa98 117 (by decide), hL91.fa 117 rfl, q72, sMn, sMx]; rfl))), (show i91 7426 = ((rMend (i 7424) x1 x2 x3 (a 118, a 117, i 7426, i 7427) (a 133, i 7452, i 7453)).2.1).2.2.1 from (by unfold rMend; unfold rAdd; simp only [if_pos bw108, if_neg bw109, if_pos bw110]; (try unfold rPut); first | done | rfl | (simp only [(show i91 7426 = ig70 7426 from hL91.fi 7426 rfl), q73, sMn, sMx]; done) | (simp only [(show i91 7426 = ig70 7426 from hL91.fi 7426 rfl), q73, sMn, sMx]; rfl))), (show i91 7427 = ((rMend (i 7424) x1 x2 x3 (a 118, a 117, i 7426, i 7427) (a 133, i 7452, i 7453)).2.1).2.2.2 from (by unfold rMend; unfold rAdd; simp only [if_pos bw108, if_neg bw109, if_pos bw110]; (try unfold rPut); first | done | rfl | (simp only [(show i91 7427 = ig70 7427 from hL91.fi 7427 rfl), q74, sMn, sMx]; done) | (simp only [(show i91 7427 = ig70 7427 from hL91.fi 7427 rfl), q74, sMn, sMx]; rfl))), (show a104 133 = ((rMend (i 7424) x1 x2 x3 (a 118, a 117, i 7426, i 7427) (a 133, i 7452, i 7453)).2.2).1 from (by unfold rMend; unfold rAdd; simp only [if_pos bw108, if_neg bw109, if_pos bw110]; (try unfold rPut); first | done | rfl | (simp only [ea104, ea102, (show i91 7453 = ig70 7453 from hL91.fi 7453 rfl), (show ig70 7453 = i 7453 from kg70.fi 7453 rfl), ea100, q67, ea98, qs94, kg70.fa 133 rfl, sMn, sMx]; done) | (simp only [ea104, ea102, (show i91 7453 = ig70 7453 from hL91.fi 7453 rfl), (show ig70 7453 = i 7453 from kg70.fi 7453 rfl), ea100, q67, ea98, qs94, kg70.fa 133 rfl, sMn, sMx]; rfl))), (show (((i91 7453) - 1) + 1) = ((rMend (i 7424) x1 x2 x3 (a 118, a 117, i 7426, i 7427) (a 133, i 7452, i 7453)).2.2).2.1 from (by unfold rMend; unfold rAdd; simp only [if_pos bw108, if_neg bw109, if_pos bw110]; (try unfold rPut); first | done | rfl | (simp only [(show i91 7453 = ig70 7453 from hL91.fi 7453 rfl), (show ig70 7453 = i 7453 from kg70.fi 7453 rfl), sMn, sMx]; done) | (simp only [(show i91 7453 = ig70 7453 from hL91.fi 7453 rfl), (show ig70 7453 = i 7453 from kg70.fi 7453 rfl), sMn, sMx]; rfl))), (show (((i91 7453) - 1) + 1) = ((rMend (i 7424) x1 x2 x3 (a 118, a 117, i 7426, i 7427) (a 133, i 7452, i 7453)).2.2).2.2 from (by unfold rMend; unfold rAdd; simp only [if_pos bw108, if_neg bw109, if_pos bw110]; (try unfold rPut); first | done | rfl | (simp only [(show i91 7453 = ig70 7453 from hL91.fi 7453 rfl), (show ig70 7453 = i 7453 from kg70.fi 7453 rfl), sMn, sMx]; done) | (simp only [(show i91 7453 = ig70 7453 from hL91.fi 7453 rfl), (show ig70 7453 = i 7453 from kg70.fi 7453 rfl), sMn, sMx]; rfl)))⟩, (kChL_cast (kChL_set4 (kChL_cast (kShf_end O91_0 (or114 c92 p91_0.2 kor156) (hL91.I.2.1 133) (kChL_cast hE_chg (kg70.fa 133 rfl))) rfl) (hJ96.I.2.1 133) (d := ((i91 7453) - 1)) (or117 c90 efi91_7453 s95 kor40 kor1) (or145 fi91_7453.2 s95 s97 kor1) (or108 s97) (or109 s97 s99 kor1) (or183 s101 s97 kor2) (or184 s103 s97 kor3) ea98 ea100 ea102 ea104 (or172 w62)) rfl)⟩⟩)
                ·
                  have c111 : l5_91.toInt < (156 : Int32).toInt := kd_leF c; clear c
                  have s112 : (l5_91 + 4).toInt = l5_91.toInt + (4 : Int32).toInt := kd_add (or146 p91_0.1 kor4) (or147 p91_0.2 kor4)
                  refine fo_goS mi_k142 fz142_63_8_77 [.int (l5_91 + 4), .ref 133, .int l5_91, .ref 133] rfl ?_
                  refine ko_iald3 mi_k142.1 (n := 160) (c := 160) (ax := (0, 0, 0, 0, 0)) (mi_k142.2 _ _ (by rfl)) (by rfl) (ksG133 _ _ _ _) (hL91.I.2.1 133) rfl (or148 p91_0.1 s112 kor4) (or149 c111 s112 kor156 kor4) ?_
                  have r113 : ((((l5_91 + 4).toInt % 4) = 0 → (0 : Int) ≤ ((a91 133).getD (l5_91 + 4).toNatClampNeg 0).toInt ∧ ((a91 133).getD (l5_91 + 4).toNatClampNeg 0).toInt ≤ 7)) ∧ ((((l5_91 + 4).toInt % 4) = 1 → (0 : Int) ≤ ((a91 133).getD (l5_91 + 4).toNatClampNeg 0).toInt ∧ ((a91 133).getD (l5_91 + 4).toNatClampNeg 0).toInt ≤ 6)) := kE_ccond hL91.I (j := (l5_91 + 4)) (or148 p91_0.1 s112 kor4)
                  refine ko_iast3 mi_k142.1 (n := 160) (c := 160) (ax := (0, 0, 0, 0, 0)) (mi_k142.2 _ _ (by rfl)) (by rfl) (ksG133 _ _ _ _) (ksA133 _ _ _ _) (hL91.I.2.1 133) rfl (or0 p91_0.1) (or150 p91_0.2) ?_
                  intro a114 ea114 fa114
                  have hJ114 := kG_a3 hL91 133 rfl ea114 fa114 (kE_cset (or0 p91_0.1) (by have := kor4; have := kor40; have := kor156; omega) (by have := kor4; have := kor40; have := kor156; omega))
                  have s115 : (l5_91 + 1).toInt = l5_91.toInt + (1 : Int32).toInt := kd_add (or98 p91_0.1 kor1) (or151 p91_0.2 kor1)
                  first | refine fo_goL mi_k142 fz142_52_2_55 [(5, .int (l5_91 + 1)), (4, .int vg65), (0, .ref 116), (1, .int x1), (2, .int x2), (3, .int x3)] [] (by rfl) ?_ | refine fo_goL mi_k142 fz142_79_2_55 [(5, .int (l5_91 + 1)), (4, .int vg65), (0, .ref 116), (1, .int x1), (2, .int x2), (3, .int x3)] [] (by rfl) ?_
                  exact ih91 _ _ _ _ _ hJ114 (or152 c111 p91_0.1 s115 kor156 kor1) (kShf_step O91_0 (hL91.I.2.1 133) (or0 p91_0.1) (or153 c111 kor156) (or154 s112 kor4) (or155 s115 kor1) ea114 rfl) (kj_meas (or156 s115 kor1) (or157 c111 kor156) hm91)
            exact lp91 _ _ _ _ _ _ (kG_self _ hGg70.I hGg70.R) (or158 kor0) (kShf_start rfl kn0) (Nat.lt_succ_self _)
        ·
          have c116 : vg65.toInt = x3.toInt := kd_neF c; clear c
          refine fo_goS mi_k142 fz142_33_1_35 [.int vg65] rfl ?_
          have bw117 : (kTold (i 7424) x1 x2 ∧ kFit x2 x3) := ⟨(or169 w62 z2), (kFit_1 (or170 w62)).mpr (or171 z64.1 z64.2)⟩
          have bw118 : (rGet x1 x2 (a 118, a 117, i 7426, i 7427)).toInt = x3.toInt := (or160 c116 u68)
          exact ft_ret mi_k142 (by rfl) (hP vg65 _ _ _ _ hG ⟨(or159 hp0), ⟨⟨(show vg65 = (rMend (i 7424) x1 x2 x3 (a 118, a 117, i 7426, i 7427) (a 133, i 7452, i 7453)).1 from (by unfold rMend; simp only [if_pos bw117, if_pos bw118]; first | done | rfl | (simp only [q67, sMn, sMx]; done) | (simp only [q67, sMn, sMx]; rfl))), (show a 118 = ((rMend (i 7424) x1 x2 x3 (a 118, a 117, i 7426, i 7427) (a 133, i 7452, i 7453)).2.1).1 from (by unfold rMend; simp only [if_pos bw117, if_pos bw118]; first | done | rfl | (simp only [sMn, sMx]; done) | (simp only [sMn, sMx]; rfl))), (show a 117 = ((rMend (i 7424) x1 x2 x3 (a 118, a 117, i 7426, i 7427) (a 133, i 7452, i 7453)).2.1).2.1 from (by unfold rMend; simp only [if_pos bw117, if_pos bw118]; first | done | rfl | (simp only [sMn, sMx]; done) | (simp only [sMn, sMx]; rfl))), (show i 7426 = ((rMend (i 7424) x1 x2 x3 (a 118, a 117, i 7426, i 7427) (a 133, i 7452, i 7453)).2.1).2.2.1 from (by unfold rMend; simp only [if_pos bw117, if_pos bw118]; first | done | rfl | (simp only [sMn, sMx]; done) | (simp only [sMn, sMx]; rfl))), (show i 7427 = ((rMend (i 7424) x1 x2 x3 (a 118, a 117, i 7426, i 7427) (a 133, i 7452, i 7453)).2.1).2.2.2 from (by unfold rMend; simp only [if_pos bw117, if_pos bw118]; first | done | rfl | (simp only [sMn, sMx]; done) | (simp only [sMn, sMx]; rfl))), (show a 133 = ((rMend (i 7424) x1 x2 x3 (a 118, a 117, i 7426, i 7427) (a 133, i 7452, i 7453)).2.2).1 from (by unfold rMend; simp only [if_pos bw117, if_pos bw118]; first | done | rfl | (simp only [sMn, sMx]; done) | (simp only [sMn, sMx]; rfl))), (show i 7452 = ((rMend (i 7424) x1 x2 x3 (a 118, a 117, i 7426, i 7427) (a 133, i 7452, i 7453)).2.2).2.1 from (by unfold rMend; simp only [if_pos bw117, if_pos bw118]; first | done | rfl | (simp only [sMn, sMx]; done) | (simp only [sMn, sMx]; rfl))), (show i 7453 = ((rMend (i 7424) x1 x2 x3 (a 118, a 117, i 7426, i 7427) (a 133, i 7452, i 7453)).2.2).2.2 from (by unfold rMend; simp only [if_pos bw117, if_pos bw118]; first | done | rfl | (simp only [sMn, sMx]; done) | (simp only [sMn, sMx]; rfl)))⟩, (kChL_cast hE_chg rfl)⟩⟩)
      ·
        subst eg63
        have z119 : ¬ (((0 : Int) ≤ x3.toInt) ∧ (x3.toInt ≤ 9)) := hg63
        first | refine fo_goS mi_k142 fz142_6_2_18 [.int (-1)] (by rfl) ?_ | refine fo_goS mi_k142 fz142_14_2_18 [.int (-1)] (by rfl) ?_
        have bw120 : ¬ (kTold (i 7424) x1 x2 ∧ kFit x2 x3) := (fun z => absurd ((kFit_1 (or170 w62)).mp z.2) (or185 z119))
        exact ft_ret mi_k142 (by rfl) (hP (-1) _ _ _ _ hG ⟨(or159 hp0), ⟨⟨(show ((-1) : Int32) = (rMend (i 7424) x1 x2 x3 (a 118, a 117, i 7426, i 7427) (a 133, i 7452, i 7453)).1 from (by unfold rMend; simp only [if_neg bw120]; first | done | rfl | (simp only [sMn, sMx]; done) | (simp only [sMn, sMx]; rfl))), (show a 118 = ((rMend (i 7424) x1 x2 x3 (a 118, a 117, i 7426, i 7427) (a 133, i 7452, i 7453)).2.1).1 from (by unfold rMend; simp only [if_neg bw120]; first | done | rfl | (simp only [sMn, sMx]; done) | (simp only [sMn, sMx]; rfl))), (show a 117 = ((rMend (i 7424) x1 x2 x3 (a 118, a 117, i 7426, i 7427) (a 133, i 7452, i 7453)).2.1).2.1 from (by unfold rMend; simp only [if_neg bw120]; first | done | rfl | (simp only [sMn, sMx]; done) | (simp only [sMn, sMx]; rfl))), (show i 7426 = ((rMend (i 7424) x1 x2 x3 (a 118, a 117, i 7426, i 7427) (a 133, i 7452, i 7453)).2.1).2.2.1 from (by unfold rMend; simp only [if_neg bw120]; first | done | rfl | (simp only [sMn, sMx]; done) | (simp only [sMn, sMx]; rfl))), (show i 7427 = ((rMend (i 7424) x1 x2 x3 (a 118, a 117, i 7426, i 7427) (a 133, i 7452, i 7453)).2.1).2.2.2 from (by unfold rMend; simp only [if_neg bw120]; first | done | rfl | (simp only [sMn, sMx]; done) | (simp only [sMn, sMx]; rfl))), (show a 133 = ((rMend (i 7424) x1 x2 x3 (a 118, a 117, i 7426, i 7427) (a 133, i 7452, i 7453)).2.2).1 from (by unfold rMend; simp only [if_neg bw120]; first | done | rfl | (simp only [sMn, sMx]; done) | (simp only [sMn, sMx]; rfl))), (show i 7452 = ((rMend (i 7424) x1 x2 x3 (a 118, a 117, i 7426, i 7427) (a 133, i 7452, i 7453)).2.2).2.1 from (by unfold rMend; simp only [if_neg bw120]; first | done | rfl | (simp only [sMn, sMx]; done) | (simp only [sMn, sMx]; rfl))), (show i 7453 = ((rMend (i 7424) x1 x2 x3 (a 118, a 117, i 7426, i 7427) (a 133, i 7452, i 7453)).2.2).2.2 from (by unfold rMend; simp only [if_neg bw120]; first | done | rfl | (simp only [sMn, sMx]; done) | (simp only [sMn, sMx]; rfl)))⟩, (kChL_cast hE_chg rfl)⟩⟩)
    by_cases w121 : x2.toInt = 2
    ·
      refine ko_eq (x1 := (11, [(0, .ref 116), (1, .int x1), (2, .int x2), (3, .int x3)], [.int x3, .int 2], (0, 0), ks i a q r)) (by rw [(kj_eq w121 (by decide) : x2 = 2)]) ?_
      refine ko_callPI mi_k142.1 (pc := 11) (ls := [(0, .ref 116), (1, .int x1), (2, .int x2), (3, .int x3)]) (st := [.int x3, .int 2]) (h := ks i a q r) (i := (.invokestatic 144, 3, 139, 0, 9, 0, 388)) (mi_k142.2 _ _ (by rfl)) (ft_invS mi_pq139 (by rfl)) (cy := mi_c139) mi_pq139 rfl (ke139_l02 hG.I hG.R x3) (by decide) ?_
      intro vg122 hg122
      rcases hg122 with ⟨eg122, hg122⟩ | ⟨eg122, hg122⟩
      ·
        subst eg122
        have z123 : ((0 : Int) ≤ x3.toInt) ∧ (x3.toInt ≤ 9) := hg122
        refine fo_goS mi_k142 fz142_14_4_22 [.int x2, .int x1, .ref 116] rfl ?_
        refine ko_callPI mi_k142.1 (pc := 22) (ls := [(0, .ref 116), (1, .int x1), (2, .int x2), (3, .int x3)]) (st := [.int x2, .int x1, .ref 116]) (h := ks i a q r) (i := (.invokevirtual 147, 3, 140, 0, 9, 0, 389)) (mi_k142.2 _ _ (by rfl)) (ft_invS mi_pq140 (by rfl)) (cy := mi_c140) mi_pq140 rfl (ke140_116 hG.I hG.R x1 x2 (or186 fi_7424.2 w121 z2) (or187 w121)) (by decide) ?_
        intro vg124 hg124
        obtain ⟨hg124, og124⟩ := hg124
        have z125 : ((x2.toInt = 4) → (((1 : Int) ≤ vg124.toInt) ∧ (vg124.toInt ≤ 5))) := hg124
        have q126 : vg124 = rGet x1 x2 (a 118, a 117, i 7426, i 7427) := og124
        have u127 : vg124.toInt = (rGet x1 x2 (a 118, a 117, i 7426, i 7427)).toInt := congrArg Int32.toInt q126
        refine fo_goL mi_k142 fz142_25_3_30 [(4, .int vg124), (0, .ref 116), (1, .int x1), (2, .int x2), (3, .int x3)] [.int x3, .int vg124] rfl ?_
        refine ft_ifS mi_k142 (vg124 != x3) 36 33 [] (by rfl) (fun c => ?_) (fun c => ?_)
        ·
          have c128 : vg124.toInt ≠ x3.toInt := kd_ne c; clear c
          refine fo_goS mi_k142 fz142_36_4_40 [.int x3, .int x2, .int x1, .ref 116] rfl ?_
          refine ko_callN mi_k142.1 (pc := 40) (ls := [(4, .int vg124), (0, .ref 116), (1, .int x1), (2, .int x2), (3, .int x3)]) (st := [.int x3, .int x2, .int x1, .ref 116]) (h := ks i a q r) (i := (.invokevirtual 150, 3, 141, 0, 9, 0, 390)) (mi_k142.2 _ _ (by rfl)) (ft_invS mi_pq141 (by rfl)) (cy := mi_c141) mi_pq141 rfl (ke141_116 hG.I hG.R x1 x2 x3 (or186 fi_7424.2 w121 z2) (or187 w121) (or22 w121)) (by decide) ?_
          intro ig129 ag129 qg129 rg129 kg129 hg129
          have hGg129 := kG_call hG kg129 (by decide +kernel)
          obtain ⟨hg129, og129⟩ := hg129
          have q130 : ag129 118 = (rSet x1 x2 x3 (a 118, a 117, i 7426, i 7427)).1 := og129.1
          have q131 : ag129 117 = (rSet x1 x2 x3 (a 118, a 117, i 7426, i 7427)).2.1 := og129.2.1
          have q132 : ig129 7426 = (rSet x1 x2 x3 (a 118, a 117, i 7426, i 7427)).2.2.1 := og129.2.2.1
          have q133 : ig129 7427 = (rSet x1 x2 x3 (a 118, a 117, i 7426, i 7427)).2.2.2 := og129.2.2.2
          have fig129_7453 : ((0 : Int) ≤ (ig129 7453).toInt) ∧ ((ig129 7453).toInt ≤ 40) := hGg129.I.1 7453
          have efig129_7453 : (ig129 7453).toInt = (i 7453).toInt := kg129.ti 7453 rfl
          refine fo_goS mi_k142 fz142_43_3_49 [.int 40, .int (ig129 7453)] rfl ?_
          refine ft_ifS mi_k142 ((ig129 7453) != 40) 95 52 [] (by rfl) (fun c => ?_) (fun c => ?_)
          ·
            have c134 : (ig129 7453).toInt ≠ (40 : Int32).toInt := kd_ne c; clear c
            have s135 : (4 * (ig129 7453)).toInt = 4 * (ig129 7453).toInt := kd_cmul 4 kor4 (or79 fig129_7453.1) (or80 fig129_7453.2)
            refine fo_goS mi_k142 fz142_95_7_106 [.int x1, .int (4 * (ig129 7453)), .ref 133] rfl ?_
            refine ko_iast3 mi_k142.1 (n := 160) (c := 160) (ax := (0, 0, 0, 0, 0)) (mi_k142.2 _ _ (by rfl)) (by rfl) (ksG133 _ _ _ _) (ksA133 _ _ _ _) (hGg129.I.2.1 133) rfl (or81 fig129_7453.1 s135) (or82 c134 fig129_7453.2 s135 kor40) ?_
            intro a136 ea136 fa136
            have hJ136 := kG_a3 hGg129 133 rfl ea136 fa136 (kE_cset (or81 fig129_7453.1 s135) (or188 fi_7424.2 w121 z2) (by have := kor40; omega))
            have s137 : ((4 * (ig129 7453)) + 1).toInt = (4 * (ig129 7453)).toInt + (1 : Int32).toInt := kd_add (or84 fig129_7453.1 s135 kor1) (or85 fig129_7453.2 s135 kor1)
            refine fo_goS mi_k142 fz142_107_9_120 [.int x2, .int ((4 * (ig129 7453)) + 1), .ref 133] rfl ?_
            refine ko_iast3 mi_k142.1 (n := 160) (c := 160) (ax := (0, 0, 0, 0, 0)) (mi_k142.2 _ _ (by rfl)) (by rfl) (ksG133 _ _ _ _) (ksA133 _ _ _ _) (hJ136.I.2.1 133) rfl (or86 fig129_7453.1 s135 s137 kor1) (or87 c134 fig129_7453.2 s135 s137 kor40 kor1) ?_
            intro a138 ea138 fa138
            have hJ138 := kG_a3 hJ136 133 rfl ea138 fa138 (kE_cset (or86 fig129_7453.1 s135 s137 kor1) (or189 w121) (or190 w121))
            have s139 : ((4 * (ig129 7453)) + 2).toInt = (4 * (ig129 7453)).toInt + (2 : Int32).toInt := kd_add (or90 fig129_7453.1 s135 kor2) (or91 fig129_7453.2 s135 kor2)
            refine fo_goS mi_k142 fz142_121_9_135 [.int vg124, .int ((4 * (ig129 7453)) + 2), .ref 133] rfl ?_
            refine ko_iast3 mi_k142.1 (n := 160) (c := 160) (ax := (0, 0, 0, 0, 0)) (mi_k142.2 _ _ (by rfl)) (by rfl) (ksG133 _ _ _ _) (ksA133 _ _ _ _) (hJ138.I.2.1 133) rfl (or92 fig129_7453.1 s135 s139 kor2) (or93 c134 fig129_7453.2 s135 s139 kor40 kor2) ?_
            intro a140 ea140 fa140
            have hJ140 := kG_a3 hJ138 133 rfl ea140 fa140 (kE_cset (or92 fig129_7453.1 s135 s139 kor2) (by have := kor1; have := kor2; have := kor40; omega) (by have := kor1; have := kor2; have := kor40; omega))
            have s141 : ((4 * (ig129 7453)) + 3).toInt = (4 * (ig129 7453)).toInt + (3 : Int32).toInt := kd_add (or94 fig129_7453.1 s135 kor3) (or95 fig129_7453.2 s135 kor3)
            refine fo_goS mi_k142 fz142_136_9_149 [.int x3, .int ((4 * (ig129 7453)) + 3), .ref 133] rfl ?_
            refine ko_iast3 mi_k142.1 (n := 160) (c := 160) (ax := (0, 0, 0, 0, 0)) (mi_k142.2 _ _ (by rfl)) (by rfl) (ksG133 _ _ _ _) (ksA133 _ _ _ _) (hJ140.I.2.1 133) rfl (or96 fig129_7453.1 s135 s141 kor3) (or97 c134 fig129_7453.2 s135 s141 kor40 kor3) ?_
            intro a142 ea142 fa142
            have hJ142 := kG_a3 hJ140 133 rfl ea142 fa142 (kE_cset (or96 fig129_7453.1 s135 s141 kor3) (by have := kor1; have := kor2; have := kor3; have := kor40; omega) (by have := kor1; have := kor2; have := kor3; have := kor40; omega))
            have s143 : ((ig129 7453) + 1).toInt = (ig129 7453).toInt + (1 : Int32).toInt := kd_add (or98 fig129_7453.1 kor1) (or99 fig129_7453.2 kor1)
            have hJ144 := kG_i hJ142 7453 rfl (v := ((ig129 7453) + 1)) ⟨(or100 fig129_7453.1 s143 kor1), (or101 c134 fig129_7453.2 s135 s143 kor40 kor1)⟩
            have hJ145 := kG_i hJ144 7452 rfl (v := ((ig129 7453) + 1)) ⟨(or100 fig129_7453.1 s143 kor1), (or101 c134 fig129_7453.2 s135 s143 kor40 kor1)⟩
            first | refine fo_goI mi_k142 fz142_150_11_170 [.int vg124] (ku (ku ig129 7453 ((ig129 7453) + 1)) 7452 ((ig129 7453) + 1)) (by rfl) ?_ | refine ft_go mi_k142 11 170 [(4, .int vg124), (0, .ref 116), (1, .int x1), (2, .int x2), (3, .int x3)] [.int vg124] (ku (ku ig129 7453 ((ig129 7453) + 1)) 7452 ((ig129 7453) + 1)) a142 qg129 rg129 (by rfl) ?_
            have bw146 : (kTold (i 7424) x1 x2 ∧ kFit x2 x3) := ⟨(or191 w121 z2), (kFit_2 (or192 w121)).mpr (or171 z123.1 z123.2)⟩
            have bw147 : ¬ ((rGet x1 x2 (a 118, a 117, i 7426, i 7427)).toInt = x3.toInt) := (or106 c128 u127)
            have bw148 : ¬ ((i 7453).toInt = 40) := (or107 c134 efig129_7453 fig129_7453.2 s135 kor40)
            exact ft_ret mi_k142 (by rfl) (hP vg124 _ _ _ _ hJ145 ⟨or102, ⟨⟨(show vg124 = (rMend (i 7424) x1 x2 x3 (a 118, a 117, i 7426, i 7427) (a 133, i 7452, i 7453)).1 from (by unfold rMend; unfold rAdd; simp only [if_pos bw146, if_neg bw147, if_neg bw148]; (try unfold rPut); first | done | rfl | (simp only [q126, sMn, sMx]; done) | (simp only [q126, sMn, sMx]; rfl))), (show a142 118 = ((rMend (i 7424) x1 x2 x3 (a 118, a 117, i 7426, i 7427) (a 133, i 7452, i 7453)).2.1).1 from (by unfold rMend; unfold rAdd; simp only [if_pos bw146, if_neg bw147, if_neg bw148]; (try unfold rPut); first | done | rfl | (simp only [fa142 118 (by decide), fa140 118 (by decide), fa138 118 (by decide), fa136 118 (by decide), q130, sMn, sMx]; done) | (simp only [fa142 118 (by decide), fa140 118 (by decide), fa138 118 (by decide), fa136 118 (by decide), q130, sMn, sMx]; rfl))), (show a142 117 = ((rMend (i 7424) x1 x2 x3 (a 118, a 117, i 7426, i 7427) (a 133, i 7452, i 7453)).2.1).2.1 from (by unfold rMend; unfold rAdd; simp only [if_pos bw146, if_neg bw147, if_neg bw148]; (try unfold rPut); first | done | rfl | (simp only [fa142 117 (by decide), fa140 117 (by decide), fa138 117 (by decide), fa136 117 (by decide), q131, sMn, sMx]; done) | (simp only [fa142 117 (by decide), fa140 117 (by decide), fa138 117 (by decide), fa136 117 (by decide), q131, sMn, sMx]; rfl))), (show ig129 7426 = ((rMend (i 7424) x1 x2 x3 (a 118, a 117, i 7426, i 7427) (a 133, i 7452, i 7453)).2.1).2.2.1 from (by unfold rMend; unfold rAdd; simp only [if_pos bw146, if_neg bw147, if_neg bw148]; (try unfold rPut); first | done | rfl | (simp only [q132, sMn, sMx]; done) | (simp only [q132, sMn, sMx]; rfl))), (show ig129 7427 = ((rMend (i 7424) x1 x2 x3 (a 118, a 117, i 7426, i 7427) (a 133, i 7452, i 7453)).2.1).2.2.2 from (by unfold rMend; unfold rAdd; simp only [if_pos bw146, if_neg bw147, if_neg bw148]; (try unfold rPut); first | done | rfl | (simp only [q133, sMn, sMx]; done) | (simp only [q133, sMn, sMx]; rfl))), (show a142 133 = ((rMend (i 7424) x1 x2 x3 (a 118, a 117, i 7426, i 7427) (a 133, i 7452, i 7453)).2.2).1 from (by unfold rMend; unfold rAdd; simp only [if_pos bw146, if_neg bw147, if_neg bw148]; (try unfold rPut); first | done | rfl | (simp only [ea142, ea140, (show ig129 7453 = i 7453 from kg129.fi 7453 rfl), ea138, q126, ea136, kg129.fa 133 rfl, sMn, sMx]; done) | (simp only [ea142, ea140, (show ig129 7453 = i 7453 from kg129.fi 7453 rfl), ea138, q126, ea136, kg129.fa 133 rfl, sMn, sMx]; rfl))), (show ((ig129 7453) + 1) = ((rMend (i 7424) x1 x2 x3 (a 118, a 117, i 7426, i 7427) (a 133, i 7452, i 7453)).2.2).2.1 from (by unfold rMend; unfold rAdd; simp only [if_pos bw146, if_neg bw147, if_neg bw148]; (try unfold rPut); first | done | rfl | (simp only [(show ig129 7453 = i 7453 from kg129.fi 7453 rfl), sMn, sMx]; done) | (simp only [(show ig129 7453 = i 7453 from kg129.fi 7453 rfl), sMn, sMx]; rfl))), (show ((ig129 7453) + 1) = ((rMend (i 7424) x1 x2 x3 (a 118, a 117, i 7426, i 7427) (a 133, i 7452, i 7453)).2.2).2.2 from (by unfold rMend; unfold rAdd; simp only [if_pos bw146, if_neg bw147, if_neg bw148]; (try unfold rPut); first | done | rfl | (simp only [(show ig129 7453 = i 7453 from kg129.fi 7453 rfl), sMn, sMx]; done) | (simp only [(show ig129 7453 = i 7453 from kg129.fi 7453 rfl), sMn, sMx]; rfl)))⟩, (kChL_cast (kChL_set4 (kChL_cast hE_chg (kg129.fa 133 rfl)) (hGg129.I.2.1 133) (d := (ig129 7453)) (or0 fig129_7453.1) (or113 c134 fig129_7453.2 s135 kor40) (or108 s135) (or109 s135 s137 kor1) (or110 s135 s139 kor2) (or111 s135 s141 kor3) ea136 ea138 ea140 ea142 (or193 w121)) rfl)⟩⟩)
          ·
            have c149 : (ig129 7453).toInt = (40 : Int32).toInt := kd_neF c; clear c
            first | refine fo_goL mi_k142 fz142_52_2_55 [(5, .int 0), (4, .int vg124), (0, .ref 116), (1, .int x1), (2, .int x2), (3, .int x3)] [] (by rfl) ?_ | refine fo_goL mi_k142 fz142_79_2_55 [(5, .int 0), (4, .int vg124), (0, .ref 116), (1, .int x1), (2, .int x2), (3, .int x3)] [] (by rfl) ?_
            have lp150 : ∀ (nz : Nat) (i150 : Nat → Int32) (a150 : Nat → List Int32) (q150 : Nat → List Int64) (r150 : Nat → Nat) (l5_150 : Int32), kG yw142_116_L55 ig129 ag129 qg129 rg129 i150 a150 q150 r150 → ((0 : Int) ≤ l5_150.toInt) ∧ (l5_150.toInt ≤ 156) → kShf (ag129 133) (a150 133) l5_150.toInt.toNat → ((156 - l5_150.toInt)).toNat < nz → ko 7 (mi_h142, mi_c142) P (55, [(5, .int l5_150), (4, .int vg124), (0, .ref 116), (1, .int x1), (2, .int x2), (3, .int x3)], [], (0, 0), ks i150 a150 q150 r150) := by
              intro nz
              induction nz with
              | zero =>
                intro _ _ _ _ _ _ _ _ hm
                exact absurd hm (Nat.not_lt_zero _)
              | succ nz ih150 =>
                intro i150 a150 q150 r150 l5_150 hL150 p150_0 O150_0 hm150
                refine fo_goL mi_k142 fz142_55_2_60 [(5, .int l5_150), (4, .int vg124), (0, .ref 116), (1, .int x1), (2, .int x2), (3, .int x3)] [.int 156, .int l5_150] rfl ?_
                refine ft_ifS mi_k142 (decide (156 ≤ l5_150)) 85 63 [] (by rfl) (fun c => ?_) (fun c => ?_)
                ·
                  have c151 : (156 : Int32).toInt ≤ l5_150.toInt := kd_le c; clear c
                  have hG152 := kG_call hGg129 hL150 (by decide +kernel)
                  have qs153 : a150 133 = rShf (ag129 133) := kShf_eq O150_0 (or114 c151 p150_0.2 kor156) (hGg129.I.2.1 133) (hG152.I.2.1 133)
                  have fi150_7453 : ((0 : Int) ≤ (i150 7453).toInt) ∧ ((i150 7453).toInt ≤ 40) := hG152.I.1 7453
                  have efi150_7453 : (i150 7453).toInt = (ig129 7453).toInt := hL150.ti 7453 rfl
                  have s154 : ((i150 7453) - 1).toInt = (i150 7453).toInt - (1 : Int32).toInt := kd_sub (or115 c149 efi150_7453 kor40 kor1) (or116 fi150_7453.2 kor1)
                  have hJ155 := kG_i hG152 7453 rfl (v := ((i150 7453) - 1)) ⟨(or117 c149 efi150_7453 s154 kor40 kor1), (or118 fi150_7453.2 s154 kor1)⟩
                  have s156 : (4 * ((i150 7453) - 1)).toInt = 4 * ((i150 7453) - 1).toInt := kd_cmul 4 kor4 (or119 fi150_7453.1 s154 kor1) (or120 fi150_7453.2 s154 kor1)
                  first | refine fo_goI mi_k142 fz142_85_13_106 [.int x1, .int (4 * ((i150 7453) - 1)), .ref 133] (ku i150 7453 ((i150 7453) - 1)) (by rfl) ?_ | refine ft_goS mi_k142 13 106 [.int x1, .int (4 * ((i150 7453) - 1)), .ref 133] (by rfl) ?_ | refine ft_go mi_k142 13 106 [(5, .int l5_150), (4, .int vg124), (0, .ref 116), (1, .int x1), (2, .int x2), (3, .int x3)] [.int x1, .int (4 * ((i150 7453) - 1)), .ref 133] (ku i150 7453 ((i150 7453) - 1)) a150 q150 r150 (by rfl) ?_
                  refine ko_iast3 mi_k142.1 (n := 160) (c := 160) (ax := (0, 0, 0, 0, 0)) (mi_k142.2 _ _ (by rfl)) (by rfl) (ksG133 _ _ _ _) (ksA133 _ _ _ _) (hJ155.I.2.1 133) rfl (or121 c149 efi150_7453 s154 s156 kor40 kor1) (or122 fi150_7453.2 s154 s156 kor1) ?_
                  intro a157 ea157 fa157
                  have hJ157 := kG_a3 hJ155 133 rfl ea157 fa157 (kE_cset (or121 c149 efi150_7453 s154 s156 kor40 kor1) (or188 fi_7424.2 w121 z2) (by have := kor1; have := kor40; have := kor156; omega))
                  have s158 : ((4 * ((i150 7453) - 1)) + 1).toInt = (4 * ((i150 7453) - 1)).toInt + (1 : Int32).toInt := kd_add (or123 c149 efi150_7453 s154 s156 kor40 kor1) (or124 fi150_7453.2 s154 s156 kor1)
                  refine fo_goS mi_k142 fz142_107_9_120 [.int x2, .int ((4 * ((i150 7453) - 1)) + 1), .ref 133] rfl ?_
                  refine ko_iast3 mi_k142.1 (n := 160) (c := 160) (ax := (0, 0, 0, 0, 0)) (mi_k142.2 _ _ (by rfl)) (by rfl) (ksG133 _ _ _ _) (ksA133 _ _ _ _) (hJ157.I.2.1 133) rfl (or125 c149 efi150_7453 s154 s156 s158 kor40 kor1) (or126 fi150_7453.2 s154 s156 s158 kor1) ?_
                  intro a159 ea159 fa159
                  have hJ159 := kG_a3 hJ157 133 rfl ea159 fa159 (kE_cset (or125 c149 efi150_7453 s154 s156 s158 kor40 kor1) (or127 c149 efi150_7453 fi150_7453.2 s154 s156 s158 kor40 kor1) (or190 w121))
                  have s160 : ((4 * ((i150 7453) - 1)) + 2).toInt = (4 * ((i150 7453) - 1)).toInt + (2 : Int32).toInt := kd_add (or128 c149 efi150_7453 s154 s156 kor40 kor1 kor2) (or129 fi150_7453.2 s154 s156 kor1 kor2)
                  refine fo_goS mi_k142 fz142_121_9_135 [.int vg124, .int ((4 * ((i150 7453) - 1)) + 2), .ref 133] rfl ?_
                  refine ko_iast3 mi_k142.1 (n := 160) (c := 160) (ax := (0, 0, 0, 0, 0)) (mi_k142.2 _ _ (by rfl)) (by rfl) (ksG133 _ _ _ _) (ksA133 _ _ _ _) (hJ159.I.2.1 133) rfl (or130 c149 efi150_7453 s154 s156 s160 kor40 kor1 kor2) (or131 fi150_7453.2 s154 s156 s160 kor1 kor2) ?_
                  intro a161 ea161 fa161
                  have hJ161 := kG_a3 hJ159 133 rfl ea161 fa161 (kE_cset (or130 c149 efi150_7453 s154 s156 s160 kor40 kor1 kor2) (or132 c149 efi150_7453 fi150_7453.2 s154 s156 s160 kor40 kor1 kor2) (or133 c149 efi150_7453 fi150_7453.2 s154 s156 s160 kor40 kor1 kor2))
                  have s162 : ((4 * ((i150 7453) - 1)) + 3).toInt = (4 * ((i150 7453) - 1)).toInt + (3 : Int32).toInt := kd_add (or134 c149 efi150_7453 s154 s156 kor40 kor1 kor3) (or135 fi150_7453.2 s154 s156 kor1 kor3)
                  refine fo_goS mi_k142 fz142_136_9_149 [.int x3, .int ((4 * ((i150 7453) - 1)) + 3), .ref 133] rfl ?_
                  refine ko_iast3 mi_k142.1 (n := 160) (c := 160) (ax := (0, 0, 0, 0, 0)) (mi_k142.2 _ _ (by rfl)) (by rfl) (ksG133 _ _ _ _) (ksA133 _ _ _ _) (hJ161.I.2.1 133) rfl (or136 c149 efi150_7453 s154 s156 s162 kor40 kor1 kor3) (or137 fi150_7453.2 s154 s156 s162 kor1 kor3) ?_
                  intro a163 ea163 fa163
                  have hJ163 := kG_a3 hJ161 133 rfl ea163 fa163 (kE_cset (or136 c149 efi150_7453 s154 s156 s162 kor40 kor1 kor3) (or138 c149 efi150_7453 fi150_7453.2 s154 s156 s162 kor40 kor1 kor3) (or139 c149 efi150_7453 fi150_7453.2 s154 s156 s162 kor40 kor1 kor3))
                  have s164 : (((i150 7453) - 1) + 1).toInt = ((i150 7453) - 1).toInt + (1 : Int32).toInt := kd_add (or140 fi150_7453.1 s154 kor1) (or141 fi150_7453.2 s154 s156 kor1)
                  have hJ165 := kG_i hJ163 7453 rfl (v := (((i150 7453) - 1) + 1)) ⟨(or142 fi150_7453.1 s154 s164 kor1), (or143 fi150_7453.2 s154 s156 s164 kor1)⟩
                  have hJ166 := kG_i hJ165 7452 rfl (v := (((i150 7453) - 1) + 1)) ⟨(or142 fi150_7453.1 s154 s164 kor1), (or143 fi150_7453.2 s154 s156 s164 kor1)⟩
                  first | refine fo_goI mi_k142 fz142_150_11_170 [.int vg124] (ku (ku (ku i150 7453 ((i150 7453) - 1)) 7453 (((i150 7453) - 1) + 1)) 7452 (((i150 7453) - 1) + 1)) (by rfl) ?_ | refine ft_go mi_k142 11 170 [(5, .int l5_150), (4, .int vg124), (0, .ref 116), (1, .int x1), (2, .int x2), (3, .int x3)] [.int vg124] (ku (ku (ku i150 7453 ((i150 7453) - 1)) 7453 (((i150 7453) - 1) + 1)) 7452 (((i150 7453) - 1) + 1)) a163 q150 r150 (by rfl) ?_
                  have bw167 : (kTold (i 7424) x1 x2 ∧ kFit x2 x3) := ⟨(or191 w121 z2), (kFit_2 (or192 w121)).mpr (or171 z123.1 z123.2)⟩
                  have bw168 : ¬ ((rGet x1 x2 (a 118, a 117, i 7426, i 7427)).toInt = x3.toInt) := (or106 c128 u127)
                  have bw169 : (i 7453).toInt = 40 := (or144 c149 efig129_7453 fi_7453.2 kor40)
                  exact ft_ret mi_k142 (by rfl) (hP vg124 _ _ _ _ hJ166 ⟨or102, ⟨⟨(show vg124 = (rMend (i 7424) x1 x2 x3 (a 118, a 117, i 7426, i 7427) (a 133, i 7452, i 7453)).1 from (by unfold rMend; unfold rAdd; simp only [if_pos bw167, if_neg bw168, if_pos bw169]; (try unfold rPut); first | done | rfl | (simp only [q126, sMn, sMx]; done) | (simp only [q126, sMn, sMx]; rfl))), (show a163 118 = ((rMend (i 7424) x1 x2 x3 (a 118, a 117, i 7426, i 7427) (a 133, i 7452, i 7453)).2.1).1 from (by unfold rMend; unfold rAdd; simp only [if_pos bw167, if_neg bw168, if_pos bw169]; (try unfold rPut); first | done | rfl | (simp only [fa163 118 (by decide), fa161 118 (by decide), fa159 118 (by decide), fa157 118 (by decide), hL150.fa 118 rfl, q130, sMn, sMx]; done) | (simp only [fa163 118 (by decide), fa161 118 (by decide), fa159 118 (by decide), fa157 118 (by decide), hL150.fa 118 rfl, q130, sMn, sMx]; rfl))), (show a163 117 = ((rMend (i 7424) x1 x2 x3 (a 118, a 117, i 7426, i 7427) (a 133, i 7452, i 7453)).2.1).2.1 from (by unfold rMend; unfold rAdd; simp only [if_pos bw167, if_neg bw168, if_pos bw169]; (try unfold rPut); first | done | rfl | (simp only [fa163 117 (by decide), fa161 117 (by decide), fa159 117 (by decide), fa157 117 (by decide), hL150.fa 117 rfl, q131, sMn, sMx]; done) | (simp only [fa163 117 (by decide), fa161 117 (by decide), fa159 117 (by decide), fa157 117 (by decide), hL150.fa 117 rfl, q131, sMn, sMx]; rfl))), (show i150 7426 = ((rMend (i 7424) x1 x2 x3 (a 118, a 117, i 7426, i 7427) (a 133, i 7452, i 7453)).2.1).2.2.1 from (by unfold rMend; unfold rAdd; simp only [if_pos bw167, if_neg bw168, if_pos bw169]; (try unfold rPut); first | done | rfl | (simp only [(show i150 7426 = ig129 7426 from hL150.fi 7426 rfl), q132, sMn, sMx]; done) | (simp only [(show i150 7426 = ig129 7426 from hL150.fi 7426 rfl), q132, sMn, sMx]; rfl))), (show i150 7427 = ((rMend (i 7424) x1 x2 x3 (a 118, a 117, i 7426, i 7427) (a 133, i 7452, i 7453)).2.1).2.2.2 from (by unfold rMend; unfold rAdd; simp only [if_pos bw167, if_neg bw168, if_pos bw169]; (try unfold rPut); first | done | rfl | (simp only [(show i150 7427 = ig129 7427 from hL150.fi 7427 rfl), q133, sMn, sMx]; done) | (simp only [(show i150 7427 = ig129 7427 from hL150.fi 7427 rfl), q133, sMn, sMx]; rfl))), (show a163 133 = ((rMend (i 7424) x1 x2 x3 (a 118, a 117, i 7426, i 7427) (a 133, i 7452, i 7453)).2.2).1 from (by unfold rMend; unfold rAdd; simp only [if_pos bw167, if_neg bw168, if_pos bw169]; (try unfold rPut); first | done | rfl | (simp only [ea163, ea161, (show i150 7453 = ig129 7453 from hL150.fi 7453 rfl), (show ig129 7453 = i 7453 from kg129.fi 7453 rfl), ea159, q126, ea157, qs153, kg129.fa 133 rfl, sMn, sMx]; done) | (simp only [ea163, ea161, (show i150 7453 = ig129 7453 from hL150.fi 7453 rfl), (show ig129 7453 = i 7453 from kg129.fi 7453 rfl), ea159, q126, ea157, qs153, kg129.fa 133 rfl, sMn, sMx]; rfl))), (show (((i150 7453) - 1) + 1) = ((rMend (i 7424) x1 x2 x3 (a 118, a 117, i 7426, i 7427) (a 133, i 7452, i 7453)).2.2).2.1 from (by unfold rMend; unfold rAdd; simp only [if_pos bw167, if_neg bw168, if_pos bw169]; (try unfold rPut); first | done | rfl | (simp only [(show i150 7453 = ig129 7453 from hL150.fi 7453 rfl), (show ig129 7453 = i 7453 from kg129.fi 7453 rfl), sMn, sMx]; done) | (simp only [(show i150 7453 = ig129 7453 from hL150.fi 7453 rfl), (show ig129 7453 = i 7453 from kg129.fi 7453 rfl), sMn, sMx]; rfl))), (show (((i150 7453) - 1) + 1) = ((rMend (i 7424) x1 x2 x3 (a 118, a 117, i 7426, i 7427) (a 133, i 7452, i 7453)).2.2).2.2 from (by unfold rMend; unfold rAdd; simp only [if_pos bw167, if_neg bw168, if_pos bw169]; (try unfold rPut); first | done | rfl | (simp only [(show i150 7453 = ig129 7453 from hL150.fi 7453 rfl), (show ig129 7453 = i 7453 from kg129.fi 7453 rfl), sMn, sMx]; done) | (simp only [(show i150 7453 = ig129 7453 from hL150.fi 7453 rfl), (show ig129 7453 = i 7453 from kg129.fi 7453 rfl), sMn, sMx]; rfl)))⟩, (kChL_cast (kChL_set4 (kChL_cast (kShf_end O150_0 (or114 c151 p150_0.2 kor156) (hL150.I.2.1 133) (kChL_cast hE_chg (kg129.fa 133 rfl))) rfl) (hJ155.I.2.1 133) (d := ((i150 7453) - 1)) (or117 c149 efi150_7453 s154 kor40 kor1) (or145 fi150_7453.2 s154 s156 kor1) (or108 s156) (or109 s156 s158 kor1) (or110 s156 s160 kor2) (or111 s156 s162 kor3) ea157 ea159 ea161 ea163 (or193 w121)) rfl)⟩⟩)
                ·
                  have c170 : l5_150.toInt < (156 : Int32).toInt := kd_leF c; clear c
                  have s171 : (l5_150 + 4).toInt = l5_150.toInt + (4 : Int32).toInt := kd_add (or146 p150_0.1 kor4) (or147 p150_0.2 kor4)
                  refine fo_goS mi_k142 fz142_63_8_77 [.int (l5_150 + 4), .ref 133, .int l5_150, .ref 133] rfl ?_
                  refine ko_iald3 mi_k142.1 (n := 160) (c := 160) (ax := (0, 0, 0, 0, 0)) (mi_k142.2 _ _ (by rfl)) (by rfl) (ksG133 _ _ _ _) (hL150.I.2.1 133) rfl (or148 p150_0.1 s171 kor4) (or149 c170 s171 kor156 kor4) ?_
                  have r172 : ((((l5_150 + 4).toInt % 4) = 0 → (0 : Int) ≤ ((a150 133).getD (l5_150 + 4).toNatClampNeg 0).toInt ∧ ((a150 133).getD (l5_150 + 4).toNatClampNeg 0).toInt ≤ 7)) ∧ ((((l5_150 + 4).toInt % 4) = 1 → (0 : Int) ≤ ((a150 133).getD (l5_150 + 4).toNatClampNeg 0).toInt ∧ ((a150 133).getD (l5_150 + 4).toNatClampNeg 0).toInt ≤ 6)) := kE_ccond hL150.I (j := (l5_150 + 4)) (or148 p150_0.1 s171 kor4)
                  refine ko_iast3 mi_k142.1 (n := 160) (c := 160) (ax := (0, 0, 0, 0, 0)) (mi_k142.2 _ _ (by rfl)) (by rfl) (ksG133 _ _ _ _) (ksA133 _ _ _ _) (hL150.I.2.1 133) rfl (or0 p150_0.1) (or150 p150_0.2) ?_
                  intro a173 ea173 fa173
                  have hJ173 := kG_a3 hL150 133 rfl ea173 fa173 (kE_cset (or0 p150_0.1) (by have := kor4; have := kor40; have := kor156; omega) (by have := kor4; have := kor40; have := kor156; omega))
                  have s174 : (l5_150 + 1).toInt = l5_150.toInt + (1 : Int32).toInt := kd_add (or98 p150_0.1 kor1) (or151 p150_0.2 kor1)
                  first | refine fo_goL mi_k142 fz142_52_2_55 [(5, .int (l5_150 + 1)), (4, .int vg124), (0, .ref 116), (1, .int x1), (2, .int x2), (3, .int x3)] [] (by rfl) ?_ | refine fo_goL mi_k142 fz142_79_2_55 [(5, .int (l5_150 + 1)), (4, .int vg124), (0, .ref 116), (1, .int x1), (2, .int x2), (3, .int x3)] [] (by rfl) ?_
                  exact ih150 _ _ _ _ _ hJ173 (or152 c170 p150_0.1 s174 kor156 kor1) (kShf_step O150_0 (hL150.I.2.1 133) (or0 p150_0.1) (or153 c170 kor156) (or154 s171 kor4) (or155 s174 kor1) ea173 rfl) (kj_meas (or156 s174 kor1) (or157 c170 kor156) hm150)
            exact lp150 _ _ _ _ _ _ (kG_self _ hGg129.I hGg129.R) (or158 kor0) (kShf_start rfl kn0) (Nat.lt_succ_self _)
        ·
          have c175 : vg124.toInt = x3.toInt := kd_neF c; clear c
          refine fo_goS mi_k142 fz142_33_1_35 [.int vg124] rfl ?_
          have bw176 : (kTold (i 7424) x1 x2 ∧ kFit x2 x3) := ⟨(or191 w121 z2), (kFit_2 (or192 w121)).mpr (or171 z123.1 z123.2)⟩
          have bw177 : (rGet x1 x2 (a 118, a 117, i 7426, i 7427)).toInt = x3.toInt := (or160 c175 u127)
          exact ft_ret mi_k142 (by rfl) (hP vg124 _ _ _ _ hG ⟨(or159 hp0), ⟨⟨(show vg124 = (rMend (i 7424) x1 x2 x3 (a 118, a 117, i 7426, i 7427) (a 133, i 7452, i 7453)).1 from (by unfold rMend; simp only [if_pos bw176, if_pos bw177]; first | done | rfl | (simp only [q126, sMn, sMx]; done) | (simp only [q126, sMn, sMx]; rfl))), (show a 118 = ((rMend (i 7424) x1 x2 x3 (a 118, a 117, i 7426, i 7427) (a 133, i 7452, i 7453)).2.1).1 from (by unfold rMend; simp only [if_pos bw176, if_pos bw177]; first | done | rfl | (simp only [sMn, sMx]; done) | (simp only [sMn, sMx]; rfl))), (show a 117 = ((rMend (i 7424) x1 x2 x3 (a 118, a 117, i 7426, i 7427) (a 133, i 7452, i 7453)).2.1).2.1 from (by unfold rMend; simp only [if_pos bw176, if_pos bw177]; first | done | rfl | (simp only [sMn, sMx]; done) | (simp only [sMn, sMx]; rfl))), (show i 7426 = ((rMend (i 7424) x1 x2 x3 (a 118, a 117, i 7426, i 7427) (a 133, i 7452, i 7453)).2.1).2.2.1 from (by unfold rMend; simp only [if_pos bw176, if_pos bw177]; first | done | rfl | (simp only [sMn, sMx]; done) | (simp only [sMn, sMx]; rfl))), (show i 7427 = ((rMend (i 7424) x1 x2 x3 (a 118, a 117, i 7426, i 7427) (a 133, i 7452, i 7453)).2.1).2.2.2 from (by unfold rMend; simp only [if_pos bw176, if_pos bw177]; first | done | rfl | (simp only [sMn, sMx]; done) | (simp only [sMn, sMx]; rfl))), (show a 133 = ((rMend (i 7424) x1 x2 x3 (a 118, a 117, i 7426, i 7427) (a 133, i 7452, i 7453)).2.2).1 from (by unfold rMend; simp only [if_pos bw176, if_pos bw177]; first | done | rfl | (simp only [sMn, sMx]; done) | (simp only [sMn, sMx]; rfl))), (show i 7452 = ((rMend (i 7424) x1 x2 x3 (a 118, a 117, i 7426, i 7427) (a 133, i 7452, i 7453)).2.2).2.1 from (by unfold rMend; simp only [if_pos bw176, if_pos bw177]; first | done | rfl | (simp only [sMn, sMx]; done) | (simp only [sMn, sMx]; rfl))), (show i 7453 = ((rMend (i 7424) x1 x2 x3 (a 118, a 117, i 7426, i 7427) (a 133, i 7452, i 7453)).2.2).2.2 from (by unfold rMend; simp only [if_pos bw176, if_pos bw177]; first | done | rfl | (simp only [sMn, sMx]; done) | (simp only [sMn, sMx]; rfl)))⟩, (kChL_cast hE_chg rfl)⟩⟩)
      ·
        subst eg122
        have z178 : ¬ (((0 : Int) ≤ x3.toInt) ∧ (x3.toInt ≤ 9)) := hg122
        first | refine fo_goS mi_k142 fz142_6_2_18 [.int (-1)] (by rfl) ?_ | refine fo_goS mi_k142 fz142_14_2_18 [.int (-1)] (by rfl) ?_
        have bw179 : ¬ (kTold (i 7424) x1 x2 ∧ kFit x2 x3) := (fun z => absurd ((kFit_2 (or192 w121)).mp z.2) (or185 z178))
        exact ft_ret mi_k142 (by rfl) (hP (-1) _ _ _ _ hG ⟨(or159 hp0), ⟨⟨(show ((-1) : Int32) = (rMend (i 7424) x1 x2 x3 (a 118, a 117, i 7426, i 7427) (a 133, i 7452, i 7453)).1 from (by unfold rMend; simp only [if_neg bw179]; first | done | rfl | (simp only [sMn, sMx]; done) | (simp only [sMn, sMx]; rfl))), (show a 118 = ((rMend (i 7424) x1 x2 x3 (a 118, a 117, i 7426, i 7427) (a 133, i 7452, i 7453)).2.1).1 from (by unfold rMend; simp only [if_neg bw179]; first | done | rfl | (simp only [sMn, sMx]; done) | (simp only [sMn, sMx]; rfl))), (show a 117 = ((rMend (i 7424) x1 x2 x3 (a 118, a 117, i 7426, i 7427) (a 133, i 7452, i 7453)).2.1).2.1 from (by unfold rMend; simp only [if_neg bw179]; first | done | rfl | (simp only [sMn, sMx]; done) | (simp only [sMn, sMx]; rfl))), (show i 7426 = ((rMend (i 7424) x1 x2 x3 (a 118, a 117, i 7426, i 7427) (a 133, i 7452, i 7453)).2.1).2.2.1 from (by unfold rMend; simp only [if_neg bw179]; first | done | rfl | (simp only [sMn, sMx]; done) | (simp only [sMn, sMx]; rfl))), (show i 7427 = ((rMend (i 7424) x1 x2 x3 (a 118, a 117, i 7426, i 7427) (a 133, i 7452, i 7453)).2.1).2.2.2 from (by unfold rMend; simp only [if_neg bw179]; first | done | rfl | (simp only [sMn, sMx]; done) | (simp only [sMn, sMx]; rfl))), (show a 133 = ((rMend (i 7424) x1 x2 x3 (a 118, a 117, i 7426, i 7427) (a 133, i 7452, i 7453)).2.2).1 from (by unfold rMend; simp only [if_neg bw179]; first | done | rfl | (simp only [sMn, sMx]; done) | (simp only [sMn, sMx]; rfl))), (show i 7452 = ((rMend (i 7424) x1 x2 x3 (a 118, a 117, i 7426, i 7427) (a 133, i 7452, i 7453)).2.2).2.1 from (by unfold rMend; simp only [if_neg bw179]; first | done | rfl | (simp only [sMn, sMx]; done) | (simp only [sMn, sMx]; rfl))), (show i 7453 = ((rMend (i 7424) x1 x2 x3 (a 118, a 117, i 7426, i 7427) (a 133, i 7452, i 7453)).2.2).2.2 from (by unfold rMend; simp only [if_neg bw179]; first | done | rfl | (simp only [sMn, sMx]; done) | (simp only [sMn, sMx]; rfl)))⟩, (kChL_cast hE_chg rfl)⟩⟩)
    by_cases w180 : x2.toInt = 3
    ·
      refine ko_eq (x1 := (11, [(0, .ref 116), (1, .int x1), (2, .int x2), (3, .int x3)], [.int x3, .int 3], (0, 0), ks i a q r)) (by rw [(kj_eq w180 (by decide) : x2 = 3)]) ?_
      refine ko_callPI mi_k142.1 (pc := 11) (ls := [(0, .ref 116), (1, .int x1), (2, .int x2), (3, .int x3)]) (st := [.int x3, .int 3]) (h := ks i a q r) (i := (.invokestatic 144, 3, 139, 0, 9, 0, 388)) (mi_k142.2 _ _ (by rfl)) (ft_invS mi_pq139 (by rfl)) (cy := mi_c139) mi_pq139 rfl (ke139_l03 hG.I hG.R x3) (by decide) ?_
      intro vg181 hg181
      rcases hg181 with ⟨eg181, hg181⟩ | ⟨eg181, hg181⟩
      ·
        subst eg181
        have z182 : ((0 : Int) ≤ x3.toInt) ∧ (x3.toInt ≤ 1) := hg181
        refine fo_goS mi_k142 fz142_14_4_22 [.int x2, .int x1, .ref 116] rfl ?_
        refine ko_callPI mi_k142.1 (pc := 22) (ls := [(0, .ref 116), (1, .int x1), (2, .int x2), (3, .int x3)]) (st := [.int x2, .int x1, .ref 116]) (h := ks i a q r) (i := (.invokevirtual 147, 3, 140, 0, 9, 0, 389)) (mi_k142.2 _ _ (by rfl)) (ft_invS mi_pq140 (by rfl)) (cy := mi_c140) mi_pq140 rfl (ke140_116 hG.I hG.R x1 x2 (or196 fi_7424.2 w180 z2) (or197 w180)) (by decide) ?_
        intro vg183 hg183
        obtain ⟨hg183, og183⟩ := hg183
        have z184 : ((x2.toInt = 4) → (((1 : Int) ≤ vg183.toInt) ∧ (vg183.toInt ≤ 5))) := hg183
        have q185 : vg183 = rGet x1 x2 (a 118, a 117, i 7426, i 7427) := og183
        have u186 : vg183.toInt = (rGet x1 x2 (a 118, a 117, i 7426, i 7427)).toInt := congrArg Int32.toInt q185
        refine fo_goL mi_k142 fz142_25_3_30 [(4, .int vg183), (0, .ref 116), (1, .int x1), (2, .int x2), (3, .int x3)] [.int x3, .int vg183] rfl ?_
        refine ft_ifS mi_k142 (vg183 != x3) 36 33 [] (by rfl) (fun c => ?_) (fun c => ?_)
        ·
          have c187 : vg183.toInt ≠ x3.toInt := kd_ne c; clear c
          refine fo_goS mi_k142 fz142_36_4_40 [.int x3, .int x2, .int x1, .ref 116] rfl ?_
          refine ko_callN mi_k142.1 (pc := 40) (ls := [(4, .int vg183), (0, .ref 116), (1, .int x1), (2, .int x2), (3, .int x3)]) (st := [.int x3, .int x2, .int x1, .ref 116]) (h := ks i a q r) (i := (.invokevirtual 150, 3, 141, 0, 9, 0, 390)) (mi_k142.2 _ _ (by rfl)) (ft_invS mi_pq141 (by rfl)) (cy := mi_c141) mi_pq141 rfl (ke141_116 hG.I hG.R x1 x2 x3 (or196 fi_7424.2 w180 z2) (or197 w180) (or32 w180)) (by decide) ?_
          intro ig188 ag188 qg188 rg188 kg188 hg188
          have hGg188 := kG_call hG kg188 (by decide +kernel)
          obtain ⟨hg188, og188⟩ := hg188
          have q189 : ag188 118 = (rSet x1 x2 x3 (a 118, a 117, i 7426, i 7427)).1 := og188.1
          have q190 : ag188 117 = (rSet x1 x2 x3 (a 118, a 117, i 7426, i 7427)).2.1 := og188.2.1
          have q191 : ig188 7426 = (rSet x1 x2 x3 (a 118, a 117, i 7426, i 7427)).2.2.1 := og188.2.2.1
          have q192 : ig188 7427 = (rSet x1 x2 x3 (a 118, a 117, i 7426, i 7427)).2.2.2 := og188.2.2.2
          have fig188_7453 : ((0 : Int) ≤ (ig188 7453).toInt) ∧ ((ig188 7453).toInt ≤ 40) := hGg188.I.1 7453
          have efig188_7453 : (ig188 7453).toInt = (i 7453).toInt := kg188.ti 7453 rfl
          refine fo_goS mi_k142 fz142_43_3_49 [.int 40, .int (ig188 7453)] rfl ?_
          refine ft_ifS mi_k142 ((ig188 7453) != 40) 95 52 [] (by rfl) (fun c => ?_) (fun c => ?_)
          ·
            have c193 : (ig188 7453).toInt ≠ (40 : Int32).toInt := kd_ne c; clear c
            have s194 : (4 * (ig188 7453)).toInt = 4 * (ig188 7453).toInt := kd_cmul 4 kor4 (or79 fig188_7453.1) (or80 fig188_7453.2)
            refine fo_goS mi_k142 fz142_95_7_106 [.int x1, .int (4 * (ig188 7453)), .ref 133] rfl ?_
            refine ko_iast3 mi_k142.1 (n := 160) (c := 160) (ax := (0, 0, 0, 0, 0)) (mi_k142.2 _ _ (by rfl)) (by rfl) (ksG133 _ _ _ _) (ksA133 _ _ _ _) (hGg188.I.2.1 133) rfl (or81 fig188_7453.1 s194) (or82 c193 fig188_7453.2 s194 kor40) ?_
            intro a195 ea195 fa195
            have hJ195 := kG_a3 hGg188 133 rfl ea195 fa195 (kE_cset (or81 fig188_7453.1 s194) (or198 fi_7424.2 w180 z2) (by have := kor40; omega))
            have s196 : ((4 * (ig188 7453)) + 1).toInt = (4 * (ig188 7453)).toInt + (1 : Int32).toInt := kd_add (or84 fig188_7453.1 s194 kor1) (or85 fig188_7453.2 s194 kor1)
            refine fo_goS mi_k142 fz142_107_9_120 [.int x2, .int ((4 * (ig188 7453)) + 1), .ref 133] rfl ?_
            refine ko_iast3 mi_k142.1 (n := 160) (c := 160) (ax := (0, 0, 0, 0, 0)) (mi_k142.2 _ _ (by rfl)) (by rfl) (ksG133 _ _ _ _) (ksA133 _ _ _ _) (hJ195.I.2.1 133) rfl (or86 fig188_7453.1 s194 s196 kor1) (or87 c193 fig188_7453.2 s194 s196 kor40 kor1) ?_
            intro a197 ea197 fa197
            have hJ197 := kG_a3 hJ195 133 rfl ea197 fa197 (kE_cset (or86 fig188_7453.1 s194 s196 kor1) (or199 w180) (or200 w180))
            have s198 : ((4 * (ig188 7453)) + 2).toInt = (4 * (ig188 7453)).toInt + (2 : Int32).toInt := kd_add (or90 fig188_7453.1 s194 kor2) (or91 fig188_7453.2 s194 kor2)
            refine fo_goS mi_k142 fz142_121_9_135 [.int vg183, .int ((4 * (ig188 7453)) + 2), .ref 133] rfl ?_
            refine ko_iast3 mi_k142.1 (n := 160) (c := 160) (ax := (0, 0, 0, 0, 0)) (mi_k142.2 _ _ (by rfl)) (by rfl) (ksG133 _ _ _ _) (ksA133 _ _ _ _) (hJ197.I.2.1 133) rfl (or92 fig188_7453.1 s194 s198 kor2) (or93 c193 fig188_7453.2 s194 s198 kor40 kor2) ?_
            intro a199 ea199 fa199
            have hJ199 := kG_a3 hJ197 133 rfl ea199 fa199 (kE_cset (or92 fig188_7453.1 s194 s198 kor2) (by have := kor1; have := kor2; have := kor40; omega) (by have := kor1; have := kor2; have := kor40; omega))
            have s200 : ((4 * (ig188 7453)) + 3).toInt = (4 * (ig188 7453)).toInt + (3 : Int32).toInt := kd_add (or94 fig188_7453.1 s194 kor3) (or95 fig188_7453.2 s194 kor3)
            refine fo_goS mi_k142 fz142_136_9_149 [.int x3, .int ((4 * (ig188 7453)) + 3), .ref 133] rfl ?_
            refine ko_iast3 mi_k142.1 (n := 160) (c := 160) (ax := (0, 0, 0, 0, 0)) (mi_k142.2 _ _ (by rfl)) (by rfl) (ksG133 _ _ _ _) (ksA133 _ _ _ _) (hJ199.I.2.1 133) rfl (or96 fig188_7453.1 s194 s200 kor3) (or97 c193 fig188_7453.2 s194 s200 kor40 kor3) ?_
            intro a201 ea201 fa201
            have hJ201 := kG_a3 hJ199 133 rfl ea201 fa201 (kE_cset (or96 fig188_7453.1 s194 s200 kor3) (or201 z182.1 z182.2) (or202 z182.1 z182.2))
            have s202 : ((ig188 7453) + 1).toInt = (ig188 7453).toInt + (1 : Int32).toInt := kd_add (or98 fig188_7453.1 kor1) (or99 fig188_7453.2 kor1)
            have hJ203 := kG_i hJ201 7453 rfl (v := ((ig188 7453) + 1)) ⟨(or100 fig188_7453.1 s202 kor1), (or101 c193 fig188_7453.2 s194 s202 kor40 kor1)⟩
            have hJ204 := kG_i hJ203 7452 rfl (v := ((ig188 7453) + 1)) ⟨(or100 fig188_7453.1 s202 kor1), (or101 c193 fig188_7453.2 s194 s202 kor40 kor1)⟩
            first | refine fo_goI mi_k142 fz142_150_11_170 [.int vg183] (ku (ku ig188 7453 ((ig188 7453) + 1)) 7452 ((ig188 7453) + 1)) (by rfl) ?_ | refine ft_go mi_k142 11 170 [(4, .int vg183), (0, .ref 116), (1, .int x1), (2, .int x2), (3, .int x3)] [.int vg183] (ku (ku ig188 7453 ((ig188 7453) + 1)) 7452 ((ig188 7453) + 1)) a201 qg188 rg188 (by rfl) ?_
            have bw205 : (kTold (i 7424) x1 x2 ∧ kFit x2 x3) := ⟨(or203 w180 z2), (kFit_3 (or204 w180)).mpr (or205 z182.1 z182.2)⟩
            have bw206 : ¬ ((rGet x1 x2 (a 118, a 117, i 7426, i 7427)).toInt = x3.toInt) := (or106 c187 u186)
            have bw207 : ¬ ((i 7453).toInt = 40) := (or107 c193 efig188_7453 fig188_7453.2 s194 kor40)
            exact ft_ret mi_k142 (by rfl) (hP vg183 _ _ _ _ hJ204 ⟨or102, ⟨⟨(show vg183 = (rMend (i 7424) x1 x2 x3 (a 118, a 117, i 7426, i 7427) (a 133, i 7452, i 7453)).1 from (by unfold rMend; unfold rAdd; simp only [if_pos bw205, if_neg bw206, if_neg bw207]; (try unfold rPut); first | done | rfl | (simp only [q185, sMn, sMx]; done) | (simp only [q185, sMn, sMx]; rfl))), (show a201 118 = ((rMend (i 7424) x1 x2 x3 (a 118, a 117, i 7426, i 7427) (a 133, i 7452, i 7453)).2.1).1 from (by unfold rMend; unfold rAdd; simp only [if_pos bw205, if_neg bw206, if_neg bw207]; (try unfold rPut); first | done | rfl | (simp only [fa201 118 (by decide), fa199 118 (by decide), fa197 118 (by decide), fa195 118 (by decide), q189, sMn, sMx]; done) | (simp only [fa201 118 (by decide), fa199 118 (by decide), fa197 118 (by decide), fa195 118 (by decide), q189, sMn, sMx]; rfl))), (show a201 117 = ((rMend (i 7424) x1 x2 x3 (a 118, a 117, i 7426, i 7427) (a 133, i 7452, i 7453)).2.1).2.1 from (by unfold rMend; unfold rAdd; simp only [if_pos bw205, if_neg bw206, if_neg bw207]; (try unfold rPut); first | done | rfl | (simp only [fa201 117 (by decide), fa199 117 (by decide), fa197 117 (by decide), fa195 117 (by decide), q190, sMn, sMx]; done) | (simp only [fa201 117 (by decide), fa199 117 (by decide), fa197 117 (by decide), fa195 117 (by decide), q190, sMn, sMx]; rfl))), (show ig188 7426 = ((rMend (i 7424) x1 x2 x3 (a 118, a 117, i 7426, i 7427) (a 133, i 7452, i 7453)).2.1).2.2.1 from (by unfold rMend; unfold rAdd; simp only [if_pos bw205, if_neg bw206, if_neg bw207]; (try unfold rPut); first | done | rfl | (simp only [q191, sMn, sMx]; done) | (simp only [q191, sMn, sMx]; rfl))), (show ig188 7427 = ((rMend (i 7424) x1 x2 x3 (a 118, a 117, i 7426, i 7427) (a 133, i 7452, i 7453)).2.1).2.2.2 from (by unfold rMend; unfold rAdd; simp only [if_pos bw205, if_neg bw206, if_neg bw207]; (try unfold rPut); first | done | rfl | (simp only [q192, sMn, sMx]; done) | (simp only [q192, sMn, sMx]; rfl))), (show a201 133 = ((rMend (i 7424) x1 x2 x3 (a 118, a 117, i 7426, i 7427) (a 133, i 7452, i 7453)).2.2).1 from (by unfold rMend; unfold rAdd; simp only [if_pos bw205, if_neg bw206, if_neg bw207]; (try unfold rPut); first | done | rfl | (simp only [ea201, ea199, (show ig188 7453 = i 7453 from kg188.fi 7453 rfl), ea197, q185, ea195, kg188.fa 133 rfl, sMn, sMx]; done) | (simp only [ea201, ea199, (show ig188 7453 = i 7453 from kg188.fi 7453 rfl), ea197, q185, ea195, kg188.fa 133 rfl, sMn, sMx]; rfl))), (show ((ig188 7453) + 1) = ((rMend (i 7424) x1 x2 x3 (a 118, a 117, i 7426, i 7427) (a 133, i 7452, i 7453)).2.2).2.1 from (by unfold rMend; unfold rAdd; simp only [if_pos bw205, if_neg bw206, if_neg bw207]; (try unfold rPut); first | done | rfl | (simp only [(show ig188 7453 = i 7453 from kg188.fi 7453 rfl), sMn, sMx]; done) | (simp only [(show ig188 7453 = i 7453 from kg188.fi 7453 rfl), sMn, sMx]; rfl))), (show ((ig188 7453) + 1) = ((rMend (i 7424) x1 x2 x3 (a 118, a 117, i 7426, i 7427) (a 133, i 7452, i 7453)).2.2).2.2 from (by unfold rMend; unfold rAdd; simp only [if_pos bw205, if_neg bw206, if_neg bw207]; (try unfold rPut); first | done | rfl | (simp only [(show ig188 7453 = i 7453 from kg188.fi 7453 rfl), sMn, sMx]; done) | (simp only [(show ig188 7453 = i 7453 from kg188.fi 7453 rfl), sMn, sMx]; rfl)))⟩, (kChL_cast (kChL_set4 (kChL_cast hE_chg (kg188.fa 133 rfl)) (hGg188.I.2.1 133) (d := (ig188 7453)) (or0 fig188_7453.1) (or113 c193 fig188_7453.2 s194 kor40) (or108 s194) (or109 s194 s196 kor1) (or110 s194 s198 kor2) (or111 s194 s200 kor3) ea195 ea197 ea199 ea201 (or206 w180)) rfl)⟩⟩)
          ·
            have c208 : (ig188 7453).toInt = (40 : Int32).toInt := kd_neF c; clear c
            first | refine fo_goL mi_k142 fz142_52_2_55 [(5, .int 0), (4, .int vg183), (0, .ref 116), (1, .int x1), (2, .int x2), (3, .int x3)] [] (by rfl) ?_ | refine fo_goL mi_k142 fz142_79_2_55 [(5, .int 0), (4, .int vg183), (0, .ref 116), (1, .int x1), (2, .int x2), (3, .int x3)] [] (by rfl) ?_
            have lp209 : ∀ (nz : Nat) (i209 : Nat → Int32) (a209 : Nat → List Int32) (q209 : Nat → List Int64) (r209 : Nat → Nat) (l5_209 : Int32), kG yw142_116_L55 ig188 ag188 qg188 rg188 i209 a209 q209 r209 → ((0 : Int) ≤ l5_209.toInt) ∧ (l5_209.toInt ≤ 156) → kShf (ag188 133) (a209 133) l5_209.toInt.toNat → ((156 - l5_209.toInt)).toNat < nz → ko 7 (mi_h142, mi_c142) P (55, [(5, .int l5_209), (4, .int vg183), (0, .ref 116), (1, .int x1), (2, .int x2), (3, .int x3)], [], (0, 0), ks i209 a209 q209 r209) := by
              intro nz
              induction nz with
              | zero =>
                intro _ _ _ _ _ _ _ _ hm
                exact absurd hm (Nat.not_lt_zero _)
              | succ nz ih209 =>
                intro i209 a209 q209 r209 l5_209 hL209 p209_0 O209_0 hm209
                refine fo_goL mi_k142 fz142_55_2_60 [(5, .int l5_209), (4, .int vg183), (0, .ref 116), (1, .int x1), (2, .int x2), (3, .int x3)] [.int 156, .int l5_209] rfl ?_
                refine ft_ifS mi_k142 (decide (156 ≤ l5_209)) 85 63 [] (by rfl) (fun c => ?_) (fun c => ?_)
                ·
                  have c210 : (156 : Int32).toInt ≤ l5_209.toInt := kd_le c; clear c
                  have hG211 := kG_call hGg188 hL209 (by decide +kernel)
                  have qs212 : a209 133 = rShf (ag188 133) := kShf_eq O209_0 (or114 c210 p209_0.2 kor156) (hGg188.I.2.1 133) (hG211.I.2.1 133)
                  have fi209_7453 : ((0 : Int) ≤ (i209 7453).toInt) ∧ ((i209 7453).toInt ≤ 40) := hG211.I.1 7453
                  have efi209_7453 : (i209 7453).toInt = (ig188 7453).toInt := hL209.ti 7453 rfl
                  have s213 : ((i209 7453) - 1).toInt = (i209 7453).toInt - (1 : Int32).toInt := kd_sub (or115 c208 efi209_7453 kor40 kor1) (or116 fi209_7453.2 kor1)
                  have hJ214 := kG_i hG211 7453 rfl (v := ((i209 7453) - 1)) ⟨(or117 c208 efi209_7453 s213 kor40 kor1), (or118 fi209_7453.2 s213 kor1)⟩
                  have s215 : (4 * ((i209 7453) - 1)).toInt = 4 * ((i209 7453) - 1).toInt := kd_cmul 4 kor4 (or119 fi209_7453.1 s213 kor1) (or120 fi209_7453.2 s213 kor1)
                  first | refine fo_goI mi_k142 fz142_85_13_106 [.int x1, .int (4 * ((i209 7453) - 1)), .ref 133] (ku i209 7453 ((i209 7453) - 1)) (by rfl) ?_ | refine ft_goS mi_k142 13 106 [.int x1, .int (4 * ((i209 7453) - 1)), .ref 133] (by rfl) ?_ | refine ft_go mi_k142 13 106 [(5, .int l5_209), (4, .int vg183), (0, .ref 116), (1, .int x1), (2, .int x2), (3, .int x3)] [.int x1, .int (4 * ((i209 7453) - 1)), .ref 133] (ku i209 7453 ((i209 7453) - 1)) a209 q209 r209 (by rfl) ?_
                  refine ko_iast3 mi_k142.1 (n := 160) (c := 160) (ax := (0, 0, 0, 0, 0)) (mi_k142.2 _ _ (by rfl)) (by rfl) (ksG133 _ _ _ _) (ksA133 _ _ _ _) (hJ214.I.2.1 133) rfl (or121 c208 efi209_7453 s213 s215 kor40 kor1) (or122 fi209_7453.2 s213 s215 kor1) ?_
                  intro a216 ea216 fa216
                  have hJ216 := kG_a3 hJ214 133 rfl ea216 fa216 (kE_cset (or121 c208 efi209_7453 s213 s215 kor40 kor1) (or198 fi_7424.2 w180 z2) (by have := kor1; have := kor40; have := kor156; omega))
                  have s217 : ((4 * ((i209 7453) - 1)) + 1).toInt = (4 * ((i209 7453) - 1)).toInt + (1 : Int32).toInt := kd_add (or123 c208 efi209_7453 s213 s215 kor40 kor1) (or124 fi209_7453.2 s213 s215 kor1)
                  refine fo_goS mi_k142 fz142_107_9_120 [.int x2, .int ((4 * ((i209 7453) - 1)) + 1), .ref 133] rfl ?_
                  refine ko_iast3 mi_k142.1 (n := 160) (c := 160) (ax := (0, 0, 0, 0, 0)) (mi_k142.2 _ _ (by rfl)) (by rfl) (ksG133 _ _ _ _) (ksA133 _ _ _ _) (hJ216.I.2.1 133) rfl (or125 c208 efi209_7453 s213 s215 s217 kor40 kor1) (or126 fi209_7453.2 s213 s215 s217 kor1) ?_
                  intro a218 ea218 fa218
                  have hJ218 := kG_a3 hJ216 133 rfl ea218 fa218 (kE_cset (or125 c208 efi209_7453 s213 s215 s217 kor40 kor1) (or127 c208 efi209_7453 fi209_7453.2 s213 s215 s217 kor40 kor1) (or200 w180))
                  have s219 : ((4 * ((i209 7453) - 1)) + 2).toInt = (4 * ((i209 7453) - 1)).toInt + (2 : Int32).toInt := kd_add (or128 c208 efi209_7453 s213 s215 kor40 kor1 kor2) (or129 fi209_7453.2 s213 s215 kor1 kor2)
                  refine fo_goS mi_k142 fz142_121_9_135 [.int vg183, .int ((4 * ((i209 7453) - 1)) + 2), .ref 133] rfl ?_
                  refine ko_iast3 mi_k142.1 (n := 160) (c := 160) (ax := (0, 0, 0, 0, 0)) (mi_k142.2 _ _ (by rfl)) (by rfl) (ksG133 _ _ _ _) (ksA133 _ _ _ _) (hJ218.I.2.1 133) rfl (or130 c208 efi209_7453 s213 s215 s219 kor40 kor1 kor2) (or131 fi209_7453.2 s213 s215 s219 kor1 kor2) ?_
                  intro a220 ea220 fa220
                  have hJ220 := kG_a3 hJ218 133 rfl ea220 fa220 (kE_cset (or130 c208 efi209_7453 s213 s215 s219 kor40 kor1 kor2) (or132 c208 efi209_7453 fi209_7453.2 s213 s215 s219 kor40 kor1 kor2) (or133 c208 efi209_7453 fi209_7453.2 s213 s215 s219 kor40 kor1 kor2))
                  have s221 : ((4 * ((i209 7453) - 1)) + 3).toInt = (4 * ((i209 7453) - 1)).toInt + (3 : Int32).toInt := kd_add (or134 c208 efi209_7453 s213 s215 kor40 kor1 kor3) (or135 fi209_7453.2 s213 s215 kor1 kor3)
                  refine fo_goS mi_k142 fz142_136_9_149 [.int x3, .int ((4 * ((i209 7453) - 1)) + 3), .ref 133] rfl ?_
                  refine ko_iast3 mi_k142.1 (n := 160) (c := 160) (ax := (0, 0, 0, 0, 0)) (mi_k142.2 _ _ (by rfl)) (by rfl) (ksG133 _ _ _ _) (ksA133 _ _ _ _) (hJ220.I.2.1 133) rfl (or136 c208 efi209_7453 s213 s215 s221 kor40 kor1 kor3) (or137 fi209_7453.2 s213 s215 s221 kor1 kor3) ?_
                  intro a222 ea222 fa222
                  have hJ222 := kG_a3 hJ220 133 rfl ea222 fa222 (kE_cset (or136 c208 efi209_7453 s213 s215 s221 kor40 kor1 kor3) (or138 c208 efi209_7453 fi209_7453.2 s213 s215 s221 kor40 kor1 kor3) (or139 c208 efi209_7453 fi209_7453.2 s213 s215 s221 kor40 kor1 kor3))
                  have s223 : (((i209 7453) - 1) + 1).toInt = ((i209 7453) - 1).toInt + (1 : Int32).toInt := kd_add (or140 fi209_7453.1 s213 kor1) (or141 fi209_7453.2 s213 s215 kor1)
                  have hJ224 := kG_i hJ222 7453 rfl (v := (((i209 7453) - 1) + 1)) ⟨(or142 fi209_7453.1 s213 s223 kor1), (or143 fi209_7453.2 s213 s215 s223 kor1)⟩
                  have hJ225 := kG_i hJ224 7452 rfl (v := (((i209 7453) - 1) + 1)) ⟨(or142 fi209_7453.1 s213 s223 kor1), (or143 fi209_7453.2 s213 s215 s223 kor1)⟩
                  first | refine fo_goI mi_k142 fz142_150_11_170 [.int vg183] (ku (ku (ku i209 7453 ((i209 7453) - 1)) 7453 (((i209 7453) - 1) + 1)) 7452 (((i209 7453) - 1) + 1)) (by rfl) ?_ | refine ft_go mi_k142 11 170 [(5, .int l5_209), (4, .int vg183), (0, .ref 116), (1, .int x1), (2, .int x2), (3, .int x3)] [.int vg183] (ku (ku (ku i209 7453 ((i209 7453) - 1)) 7453 (((i209 7453) - 1) + 1)) 7452 (((i209 7453) - 1) + 1)) a222 q209 r209 (by rfl) ?_
                  have bw226 : (kTold (i 7424) x1 x2 ∧ kFit x2 x3) := ⟨(or203 w180 z2), (kFit_3 (or204 w180)).mpr (or205 z182.1 z182.2)⟩
                  have bw227 : ¬ ((rGet x1 x2 (a 118, a 117, i 7426, i 7427)).toInt = x3.toInt) := (or106 c187 u186)
                  have bw228 : (i 7453).toInt = 40 := (or144 c208 efig188_7453 fi_7453.2 kor40)
                  exact ft_ret mi_k142 (by rfl) (hP vg183 _ _ _ _ hJ225 ⟨or102, ⟨⟨(show vg183 = (rMend (i 7424) x1 x2 x3 (a 118, a 117, i 7426, i 7427) (a 133, i 7452, i 7453)).1 from (by unfold rMend; unfold rAdd; simp only [if_pos bw226, if_neg bw227, if_pos bw228]; (try unfold rPut); first | done | rfl | (simp only [q185, sMn, sMx]; done) | (simp only [q185, sMn, sMx]; rfl))), (show a222 118 = ((rMend (i 7424) x1 x2 x3 (a 118, a 117, i 7426, i 7427) (a 133, i 7452, i 7453)).2.1).1 from (by unfold rMend; unfold rAdd; simp only [if_pos bw226, if_neg bw227, if_pos bw228]; (try unfold rPut); first | done | rfl | (simp only [fa222 118 (by decide), fa220 118 (by decide), fa218 118 (by decide), fa216 118 (by decide), hL209.fa 118 rfl, q189, sMn, sMx]; done) | (simp only [fa222 118 (by decide), fa220 118 (by decide), fa218 118 (by decide), fa216 118 (by decide), hL209.fa 118 rfl, q189, sMn, sMx]; rfl))), (show a222 117 = ((rMend (i 7424) x1 x2 x3 (a 118, a 117, i 7426, i 7427) (a 133, i 7452, i 7453)).2.1).2.1 from (by unfold rMend; unfold rAdd; simp only [if_pos bw226, if_neg bw227, if_pos bw228]; (try unfold rPut); first | done | rfl | (simp only [fa222 117 (by decide), fa220 117 (by decide), fa218 117 (by decide), fa216 117 (by decide), hL209.fa 117 rfl, q190, sMn, sMx]; done) | (simp only [fa222 117 (by decide), fa220 117 (by decide), fa218 117 (by decide), fa216 117 (by decide), hL209.fa 117 rfl, q190, sMn, sMx]; rfl))), (show i209 7426 = ((rMend (i 7424) x1 x2 x3 (a 118, a 117, i 7426, i 7427) (a 133, i 7452, i 7453)).2.1).2.2.1 from (by unfold rMend; unfold rAdd; simp only [if_pos bw226, if_neg bw227, if_pos bw228]; (try unfold rPut); first | done | rfl | (simp only [(show i209 7426 = ig188 7426 from hL209.fi 7426 rfl), q191, sMn, sMx]; done) | (simp only [(show i209 7426 = ig188 7426 from hL209.fi 7426 rfl), q191, sMn, sMx]; rfl))), (show i209 7427 = ((rMend (i 7424) x1 x2 x3 (a 118, a 117, i 7426, i 7427) (a 133, i 7452, i 7453)).2.1).2.2.2 from (by unfold rMend; unfold rAdd; simp only [if_pos bw226, if_neg bw227, if_pos bw228]; (try unfold rPut); first | done | rfl | (simp only [(show i209 7427 = ig188 7427 from hL209.fi 7427 rfl), q192, sMn, sMx]; done) | (simp only [(show i209 7427 = ig188 7427 from hL209.fi 7427 rfl), q192, sMn, sMx]; rfl))), (show a222 133 = ((rMend (i 7424) x1 x2 x3 (a 118, a 117, i 7426, i 7427) (a 133, i 7452, i 7453)).2.2).1 from (by unfold rMend; unfold rAdd; simp only [if_pos bw226, if_neg bw227, if_pos bw228]; (try unfold rPut); first | done | rfl | (simp only [ea222, ea220, (show i209 7453 = ig188 7453 from hL209.fi 7453 rfl), (show ig188 7453 = i 7453 from kg188.fi 7453 rfl), ea218, q185, ea216, qs212, kg188.fa 133 rfl, sMn, sMx]; done) | (simp only [ea222, ea220, (show i209 7453 = ig188 7453 from hL209.fi 7453 rfl), (show ig188 7453 = i 7453 from kg188.fi 7453 rfl), ea218, q185, ea216, qs212, kg188.fa 133 rfl, sMn, sMx]; rfl))), (show (((i209 7453) - 1) + 1) = ((rMend (i 7424) x1 x2 x3 (a 118, a 117, i 7426, i 7427) (a 133, i 7452, i 7453)).2.2).2.1 from (by unfold rMend; unfold rAdd; simp only [if_pos bw226, if_neg bw227, if_pos bw228]; (try unfold rPut); first | done | rfl | (simp only [(show i209 7453 = ig188 7453 from hL209.fi 7453 rfl), (show ig188 7453 = i 7453 from kg188.fi 7453 rfl), sMn, sMx]; done) | (simp only [(show i209 7453 = ig188 7453 from hL209.fi 7453 rfl), (show ig188 7453 = i 7453 from kg188.fi 7453 rfl), sMn, sMx]; rfl))), (show (((i209 7453) - 1) + 1) = ((rMend (i 7424) x1 x2 x3 (a 118, a 117, i 7426, i 7427) (a 133, i 7452, i 7453)).2.2).2.2 from (by unfold rMend; unfold rAdd; simp only [if_pos bw226, if_neg bw227, if_pos bw228]; (try unfold rPut); first | done | rfl | (simp only [(show i209 7453 = ig188 7453 from hL209.fi 7453 rfl), (show ig188 7453 = i 7453 from kg188.fi 7453 rfl), sMn, sMx]; done) | (simp only [(show i209 7453 = ig188 7453 from hL209.fi 7453 rfl), (show ig188 7453 = i 7453 from kg188.fi 7453 rfl), sMn, sMx]; rfl)))⟩, (kChL_cast (kChL_set4 (kChL_cast (kShf_end O209_0 (or114 c210 p209_0.2 kor156) (hL209.I.2.1 133) (kChL_cast hE_chg (kg188.fa 133 rfl))) rfl) (hJ214.I.2.1 133) (d := ((i209 7453) - 1)) (or117 c208 efi209_7453 s213 kor40 kor1) (or145 fi209_7453.2 s213 s215 kor1) (or108 s215) (or109 s215 s217 kor1) (or110 s215 s219 kor2) (or111 s215 s221 kor3) ea216 ea218 ea220 ea222 (or206 w180)) rfl)⟩⟩)
                ·
                  have c229 : l5_209.toInt < (156 : Int32).toInt := kd_leF c; clear c
                  have s230 : (l5_209 + 4).toInt = l5_209.toInt + (4 : Int32).toInt := kd_add (or146 p209_0.1 kor4) (or147 p209_0.2 kor4)
                  refine fo_goS mi_k142 fz142_63_8_77 [.int (l5_209 + 4), .ref 133, .int l5_209, .ref 133] rfl ?_
                  refine ko_iald3 mi_k142.1 (n := 160) (c := 160) (ax := (0, 0, 0, 0, 0)) (mi_k142.2 _ _ (by rfl)) (by rfl) (ksG133 _ _ _ _) (hL209.I.2.1 133) rfl (or148 p209_0.1 s230 kor4) (or149 c229 s230 kor156 kor4) ?_
                  have r231 : ((((l5_209 + 4).toInt % 4) = 0 → (0 : Int) ≤ ((a209 133).getD (l5_209 + 4).toNatClampNeg 0).toInt ∧ ((a209 133).getD (l5_209 + 4).toNatClampNeg 0).toInt ≤ 7)) ∧ ((((l5_209 + 4).toInt % 4) = 1 → (0 : Int) ≤ ((a209 133).getD (l5_209 + 4).toNatClampNeg 0).toInt ∧ ((a209 133).getD (l5_209 + 4).toNatClampNeg 0).toInt ≤ 6)) := kE_ccond hL209.I (j := (l5_209 + 4)) (or148 p209_0.1 s230 kor4)
                  refine ko_iast3 mi_k142.1 (n := 160) (c := 160) (ax := (0, 0, 0, 0, 0)) (mi_k142.2 _ _ (by rfl)) (by rfl) (ksG133 _ _ _ _) (ksA133 _ _ _ _) (hL209.I.2.1 133) rfl (or0 p209_0.1) (or150 p209_0.2) ?_
                  intro a232 ea232 fa232
                  have hJ232 := kG_a3 hL209 133 rfl ea232 fa232 (kE_cset (or0 p209_0.1) (by have := kor4; have := kor40; have := kor156; omega) (by have := kor4; have := kor40; have := kor156; omega))
                  have s233 : (l5_209 + 1).toInt = l5_209.toInt + (1 : Int32).toInt := kd_add (or98 p209_0.1 kor1) (or151 p209_0.2 kor1)
                  first | refine fo_goL mi_k142 fz142_52_2_55 [(5, .int (l5_209 + 1)), (4, .int vg183), (0, .ref 116), (1, .int x1), (2, .int x2), (3, .int x3)] [] (by rfl) ?_ | refine fo_goL mi_k142 fz142_79_2_55 [(5, .int (l5_209 + 1)), (4, .int vg183), (0, .ref 116), (1, .int x1), (2, .int x2), (3, .int x3)] [] (by rfl) ?_
                  exact ih209 _ _ _ _ _ hJ232 (or152 c229 p209_0.1 s233 kor156 kor1) (kShf_step O209_0 (hL209.I.2.1 133) (or0 p209_0.1) (or153 c229 kor156) (or154 s230 kor4) (or155 s233 kor1) ea232 rfl) (kj_meas (or156 s233 kor1) (or157 c229 kor156) hm209)
            exact lp209 _ _ _ _ _ _ (kG_self _ hGg188.I hGg188.R) (or158 kor0) (kShf_start rfl kn0) (Nat.lt_succ_self _)
        ·
          have c234 : vg183.toInt = x3.toInt := kd_neF c; clear c
          refine fo_goS mi_k142 fz142_33_1_35 [.int vg183] rfl ?_
          have bw235 : (kTold (i 7424) x1 x2 ∧ kFit x2 x3) := ⟨(or203 w180 z2), (kFit_3 (or204 w180)).mpr (or205 z182.1 z182.2)⟩
          have bw236 : (rGet x1 x2 (a 118, a 117, i 7426, i 7427)).toInt = x3.toInt := (or160 c234 u186)
          exact ft_ret mi_k142 (by rfl) (hP vg183 _ _ _ _ hG ⟨(or159 hp0), ⟨⟨(show vg183 = (rMend (i 7424) x1 x2 x3 (a 118, a 117, i 7426, i 7427) (a 133, i 7452, i 7453)).1 from (by unfold rMend; simp only [if_pos bw235, if_pos bw236]; first | done | rfl | (simp only [q185, sMn, sMx]; done) | (simp only [q185, sMn, sMx]; rfl))), (show a 118 = ((rMend (i 7424) x1 x2 x3 (a 118, a 117, i 7426, i 7427) (a 133, i 7452, i 7453)).2.1).1 from (by unfold rMend; simp only [if_pos bw235, if_pos bw236]; first | done | rfl | (simp only [sMn, sMx]; done) | (simp only [sMn, sMx]; rfl))), (show a 117 = ((rMend (i 7424) x1 x2 x3 (a 118, a 117, i 7426, i 7427) (a 133, i 7452, i 7453)).2.1).2.1 from (by unfold rMend; simp only [if_pos bw235, if_pos bw236]; first | done | rfl | (simp only [sMn, sMx]; done) | (simp only [sMn, sMx]; rfl))), (show i 7426 = ((rMend (i 7424) x1 x2 x3 (a 118, a 117, i 7426, i 7427) (a 133, i 7452, i 7453)).2.1).2.2.1 from (by unfold rMend; simp only [if_pos bw235, if_pos bw236]; first | done | rfl | (simp only [sMn, sMx]; done) | (simp only [sMn, sMx]; rfl))), (show i 7427 = ((rMend (i 7424) x1 x2 x3 (a 118, a 117, i 7426, i 7427) (a 133, i 7452, i 7453)).2.1).2.2.2 from (by unfold rMend; simp only [if_pos bw235, if_pos bw236]; first | done | rfl | (simp only [sMn, sMx]; done) | (simp only [sMn, sMx]; rfl))), (show a 133 = ((rMend (i 7424) x1 x2 x3 (a 118, a 117, i 7426, i 7427) (a 133, i 7452, i 7453)).2.2).1 from (by unfold rMend; simp only [if_pos bw235, if_pos bw236]; first | done | rfl | (simp only [sMn, sMx]; done) | (simp only [sMn, sMx]; rfl))), (show i 7452 = ((rMend (i 7424) x1 x2 x3 (a 118, a 117, i 7426, i 7427) (a 133, i 7452, i 7453)).2.2).2.1 from (by unfold rMend; simp only [if_pos bw235, if_pos bw236]; first | done | rfl | (simp only [sMn, sMx]; done) | (simp only [sMn, sMx]; rfl))), (show i 7453 = ((rMend (i 7424) x1 x2 x3 (a 118, a 117, i 7426, i 7427) (a 133, i 7452, i 7453)).2.2).2.2 from (by unfold rMend; simp only [if_pos bw235, if_pos bw236]; first | done | rfl | (simp only [sMn, sMx]; done) | (simp only [sMn, sMx]; rfl)))⟩, (kChL_cast hE_chg rfl)⟩⟩)
      ·
        subst eg181
        have z237 : ¬ (((0 : Int) ≤ x3.toInt) ∧ (x3.toInt ≤ 1)) := hg181
        first | refine fo_goS mi_k142 fz142_6_2_18 [.int (-1)] (by rfl) ?_ | refine fo_goS mi_k142 fz142_14_2_18 [.int (-1)] (by rfl) ?_
        have bw238 : ¬ (kTold (i 7424) x1 x2 ∧ kFit x2 x3) := (fun z => absurd ((kFit_3 (or204 w180)).mp z.2) (or207 z237))
        exact ft_ret mi_k142 (by rfl) (hP (-1) _ _ _ _ hG ⟨(or159 hp0), ⟨⟨(show ((-1) : Int32) = (rMend (i 7424) x1 x2 x3 (a 118, a 117, i 7426, i 7427) (a 133, i 7452, i 7453)).1 from (by unfold rMend; simp only [if_neg bw238]; first | done | rfl | (simp only [sMn, sMx]; done) | (simp only [sMn, sMx]; rfl))), (show a 118 = ((rMend (i 7424) x1 x2 x3 (a 118, a 117, i 7426, i 7427) (a 133, i 7452, i 7453)).2.1).1 from (by unfold rMend; simp only [if_neg bw238]; first | done | rfl | (simp only [sMn, sMx]; done) | (simp only [sMn, sMx]; rfl))), (show a 117 = ((rMend (i 7424) x1 x2 x3 (a 118, a 117, i 7426, i 7427) (a 133, i 7452, i 7453)).2.1).2.1 from (by unfold rMend; simp only [if_neg bw238]; first | done | rfl | (simp only [sMn, sMx]; done) | (simp only [sMn, sMx]; rfl))), (show i 7426 = ((rMend (i 7424) x1 x2 x3 (a 118, a 117, i 7426, i 7427) (a 133, i 7452, i 7453)).2.1).2.2.1 from (by unfold rMend; simp only [if_neg bw238]; first | done | rfl | (simp only [sMn, sMx]; done) | (simp only [sMn, sMx]; rfl))), (show i 7427 = ((rMend (i 7424) x1 x2 x3 (a 118, a 117, i 7426, i 7427) (a 133, i 7452, i 7453)).2.1).2.2.2 from (by unfold rMend; simp only [if_neg bw238]; first | done | rfl | (simp only [sMn, sMx]; done) | (simp only [sMn, sMx]; rfl))), (show a 133 = ((rMend (i 7424) x1 x2 x3 (a 118, a 117, i 7426, i 7427) (a 133, i 7452, i 7453)).2.2).1 from (by unfold rMend; simp only [if_neg bw238]; first | done | rfl | (simp only [sMn, sMx]; done) | (simp only [sMn, sMx]; rfl))), (show i 7452 = ((rMend (i 7424) x1 x2 x3 (a 118, a 117, i 7426, i 7427) (a 133, i 7452, i 7453)).2.2).2.1 from (by unfold rMend; simp only [if_neg bw238]; first | done | rfl | (simp only [sMn, sMx]; done) | (simp only [sMn, sMx]; rfl))), (show i 7453 = ((rMend (i 7424) x1 x2 x3 (a 118, a 117, i 7426, i 7427) (a 133, i 7452, i 7453)).2.2).2.2 from (by unfold rMend; simp only [if_neg bw238]; first | done | rfl | (simp only [sMn, sMx]; done) | (simp only [sMn, sMx]; rfl)))⟩, (kChL_cast hE_chg rfl)⟩⟩)
    by_cases w239 : x2.toInt = 4
    ·
      refine ko_eq (x1 := (11, [(0, .ref 116), (1, .int x1), (2, .int x2), (3, .int x3)], [.int x3, .int 4], (0, 0), ks i a q r)) (by rw [(kj_eq w239 (by decide) : x2 = 4)]) ?_
      refine ko_callPI mi_k142.1 (pc := 11) (ls := [(0, .ref 116), (1, .int x1), (2, .int x2), (3, .int x3)]) (st := [.int x3, .int 4]) (h := ks i a q r) (i := (.invokestatic 144, 3, 139, 0, 9, 0, 388)) (mi_k142.2 _ _ (by rfl)) (ft_invS mi_pq139 (by rfl)) (cy := mi_c139) mi_pq139 rfl (ke139_l04 hG.I hG.R x3) (by decide) ?_
      intro vg240 hg240
      rcases hg240 with ⟨eg240, hg240⟩ | ⟨eg240, hg240⟩
      ·
        subst eg240
        have z241 : ((1 : Int) ≤ x3.toInt) ∧ (x3.toInt ≤ 5) := hg240
        refine fo_goS mi_k142 fz142_14_4_22 [.int x2, .int x1, .ref 116] rfl ?_
        refine ko_callPI mi_k142.1 (pc := 22) (ls := [(0, .ref 116), (1, .int x1), (2, .int x2), (3, .int x3)]) (st := [.int x2, .int x1, .ref 116]) (h := ks i a q r) (i := (.invokevirtual 147, 3, 140, 0, 9, 0, 389)) (mi_k142.2 _ _ (by rfl)) (ft_invS mi_pq140 (by rfl)) (cy := mi_c140) mi_pq140 rfl (ke140_116 hG.I hG.R x1 x2 (or210 w239 z2) (or211 w239)) (by decide) ?_
        intro vg242 hg242
        obtain ⟨hg242, og242⟩ := hg242
        have z243 : ((x2.toInt = 4) → (((1 : Int) ≤ vg242.toInt) ∧ (vg242.toInt ≤ 5))) := hg242
        have q244 : vg242 = rGet x1 x2 (a 118, a 117, i 7426, i 7427) := og242
        have u245 : vg242.toInt = (rGet x1 x2 (a 118, a 117, i 7426, i 7427)).toInt := congrArg Int32.toInt q244
        refine fo_goL mi_k142 fz142_25_3_30 [(4, .int vg242), (0, .ref 116), (1, .int x1), (2, .int x2), (3, .int x3)] [.int x3, .int vg242] rfl ?_
        refine ft_ifS mi_k142 (vg242 != x3) 36 33 [] (by rfl) (fun c => ?_) (fun c => ?_)
        ·
          have c246 : vg242.toInt ≠ x3.toInt := kd_ne c; clear c
          refine fo_goS mi_k142 fz142_36_4_40 [.int x3, .int x2, .int x1, .ref 116] rfl ?_
          refine ko_callN mi_k142.1 (pc := 40) (ls := [(4, .int vg242), (0, .ref 116), (1, .int x1), (2, .int x2), (3, .int x3)]) (st := [.int x3, .int x2, .int x1, .ref 116]) (h := ks i a q r) (i := (.invokevirtual 150, 3, 141, 0, 9, 0, 390)) (mi_k142.2 _ _ (by rfl)) (ft_invS mi_pq141 (by rfl)) (cy := mi_c141) mi_pq141 rfl (ke141_116 hG.I hG.R x1 x2 x3 (or210 w239 z2) (or211 w239) (or37 z241.1 z241.2)) (by decide) ?_
          intro ig247 ag247 qg247 rg247 kg247 hg247
          have hGg247 := kG_call hG kg247 (by decide +kernel)
          obtain ⟨hg247, og247⟩ := hg247
          have q248 : ag247 118 = (rSet x1 x2 x3 (a 118, a 117, i 7426, i 7427)).1 := og247.1
          have q249 : ag247 117 = (rSet x1 x2 x3 (a 118, a 117, i 7426, i 7427)).2.1 := og247.2.1
          have q250 : ig247 7426 = (rSet x1 x2 x3 (a 118, a 117, i 7426, i 7427)).2.2.1 := og247.2.2.1
          have q251 : ig247 7427 = (rSet x1 x2 x3 (a 118, a 117, i 7426, i 7427)).2.2.2 := og247.2.2.2
          have fig247_7453 : ((0 : Int) ≤ (ig247 7453).toInt) ∧ ((ig247 7453).toInt ≤ 40) := hGg247.I.1 7453
          have efig247_7453 : (ig247 7453).toInt = (i 7453).toInt := kg247.ti 7453 rfl
          refine fo_goS mi_k142 fz142_43_3_49 [.int 40, .int (ig247 7453)] rfl ?_
          refine ft_ifS mi_k142 ((ig247 7453) != 40) 95 52 [] (by rfl) (fun c => ?_) (fun c => ?_)
          ·
            have c252 : (ig247 7453).toInt ≠ (40 : Int32).toInt := kd_ne c; clear c
            have s253 : (4 * (ig247 7453)).toInt = 4 * (ig247 7453).toInt := kd_cmul 4 kor4 (or79 fig247_7453.1) (or80 fig247_7453.2)
            refine fo_goS mi_k142 fz142_95_7_106 [.int x1, .int (4 * (ig247 7453)), .ref 133] rfl ?_
            refine ko_iast3 mi_k142.1 (n := 160) (c := 160) (ax := (0, 0, 0, 0, 0)) (mi_k142.2 _ _ (by rfl)) (by rfl) (ksG133 _ _ _ _) (ksA133 _ _ _ _) (hGg247.I.2.1 133) rfl (or81 fig247_7453.1 s253) (or82 c252 fig247_7453.2 s253 kor40) ?_
            intro a254 ea254 fa254
            have hJ254 := kG_a3 hGg247 133 rfl ea254 fa254 (kE_cset (or81 fig247_7453.1 s253) (or212 w239 z2) (or213 w239 z2))
            have s255 : ((4 * (ig247 7453)) + 1).toInt = (4 * (ig247 7453)).toInt + (1 : Int32).toInt := kd_add (or84 fig247_7453.1 s253 kor1) (or85 fig247_7453.2 s253 kor1)
            refine fo_goS mi_k142 fz142_107_9_120 [.int x2, .int ((4 * (ig247 7453)) + 1), .ref 133] rfl ?_
            refine ko_iast3 mi_k142.1 (n := 160) (c := 160) (ax := (0, 0, 0, 0, 0)) (mi_k142.2 _ _ (by rfl)) (by rfl) (ksG133 _ _ _ _) (ksA133 _ _ _ _) (hJ254.I.2.1 133) rfl (or86 fig247_7453.1 s253 s255 kor1) (or87 c252 fig247_7453.2 s253 s255 kor40 kor1) ?_
            intro a256 ea256 fa256
            have hJ256 := kG_a3 hJ254 133 rfl ea256 fa256 (kE_cset (or86 fig247_7453.1 s253 s255 kor1) (or214 w239) (or215 w239))
            have s257 : ((4 * (ig247 7453)) + 2).toInt = (4 * (ig247 7453)).toInt + (2 : Int32).toInt := kd_add (or90 fig247_7453.1 s253 kor2) (or91 fig247_7453.2 s253 kor2)
            refine fo_goS mi_k142 fz142_121_9_135 [.int vg242, .int ((4 * (ig247 7453)) + 2), .ref 133] rfl ?_
            refine ko_iast3 mi_k142.1 (n := 160) (c := 160) (ax := (0, 0, 0, 0, 0)) (mi_k142.2 _ _ (by rfl)) (by rfl) (ksG133 _ _ _ _) (ksA133 _ _ _ _) (hJ256.I.2.1 133) rfl (or92 fig247_7453.1 s253 s257 kor2) (or93 c252 fig247_7453.2 s253 s257 kor40 kor2) ?_
            intro a258 ea258 fa258
            have hJ258 := kG_a3 hJ256 133 rfl ea258 fa258 (kE_cset (or92 fig247_7453.1 s253 s257 kor2) (or216 w239 z243) (or217 w239 z243))
            have s259 : ((4 * (ig247 7453)) + 3).toInt = (4 * (ig247 7453)).toInt + (3 : Int32).toInt := kd_add (or94 fig247_7453.1 s253 kor3) (or95 fig247_7453.2 s253 kor3)
            refine fo_goS mi_k142 fz142_136_9_149 [.int x3, .int ((4 * (ig247 7453)) + 3), .ref 133] rfl ?_
            refine ko_iast3 mi_k142.1 (n := 160) (c := 160) (ax := (0, 0, 0, 0, 0)) (mi_k142.2 _ _ (by rfl)) (by rfl) (ksG133 _ _ _ _) (ksA133 _ _ _ _) (hJ258.I.2.1 133) rfl (or96 fig247_7453.1 s253 s259 kor3) (or97 c252 fig247_7453.2 s253 s259 kor40 kor3) ?_
            intro a260 ea260 fa260
            have hJ260 := kG_a3 hJ258 133 rfl ea260 fa260 (kE_cset (or96 fig247_7453.1 s253 s259 kor3) (or218 z241.1 z241.2) (or219 z241.1 z241.2))
            have s261 : ((ig247 7453) + 1).toInt = (ig247 7453).toInt + (1 : Int32).toInt := kd_add (or98 fig247_7453.1 kor1) (or99 fig247_7453.2 kor1)
            have hJ262 := kG_i hJ260 7453 rfl (v := ((ig247 7453) + 1)) ⟨(or100 fig247_7453.1 s261 kor1), (or101 c252 fig247_7453.2 s253 s261 kor40 kor1)⟩
            have hJ263 := kG_i hJ262 7452 rfl (v := ((ig247 7453) + 1)) ⟨(or100 fig247_7453.1 s261 kor1), (or101 c252 fig247_7453.2 s253 s261 kor40 kor1)⟩
            first | refine fo_goI mi_k142 fz142_150_11_170 [.int vg242] (ku (ku ig247 7453 ((ig247 7453) + 1)) 7452 ((ig247 7453) + 1)) (by rfl) ?_ | refine ft_go mi_k142 11 170 [(4, .int vg242), (0, .ref 116), (1, .int x1), (2, .int x2), (3, .int x3)] [.int vg242] (ku (ku ig247 7453 ((ig247 7453) + 1)) 7452 ((ig247 7453) + 1)) a260 qg247 rg247 (by rfl) ?_
            have bw264 : (kTold (i 7424) x1 x2 ∧ kFit x2 x3) := ⟨(or220 w239 z2), (kFit_4 (or39 w239)).mpr (or221 z241.1 z241.2)⟩
            have bw265 : ¬ ((rGet x1 x2 (a 118, a 117, i 7426, i 7427)).toInt = x3.toInt) := (or106 c246 u245)
            have bw266 : ¬ ((i 7453).toInt = 40) := (or107 c252 efig247_7453 fig247_7453.2 s253 kor40)
            exact ft_ret mi_k142 (by rfl) (hP vg242 _ _ _ _ hJ263 ⟨or102, ⟨⟨(show vg242 = (rMend (i 7424) x1 x2 x3 (a 118, a 117, i 7426, i 7427) (a 133, i 7452, i 7453)).1 from (by unfold rMend; unfold rAdd; simp only [if_pos bw264, if_neg bw265, if_neg bw266]; (try unfold rPut); first | done | rfl | (simp only [q244, sMn, sMx]; done) | (simp only [q244, sMn, sMx]; rfl))), (show a260 118 = ((rMend (i 7424) x1 x2 x3 (a 118, a 117, i 7426, i 7427) (a 133, i 7452, i 7453)).2.1).1 from (by unfold rMend; unfold rAdd; simp only [if_pos bw264, if_neg bw265, if_neg bw266]; (try unfold rPut); first | done | rfl | (simp only [fa260 118 (by decide), fa258 118 (by decide), fa256 118 (by decide), fa254 118 (by decide), q248, sMn, sMx]; done) | (simp only [fa260 118 (by decide), fa258 118 (by decide), fa256 118 (by decide), fa254 118 (by decide), q248, sMn, sMx]; rfl))), (show a260 117 = ((rMend (i 7424) x1 x2 x3 (a 118, a 117, i 7426, i 7427) (a 133, i 7452, i 7453)).2.1).2.1 from (by unfold rMend; unfold rAdd; simp only [if_pos bw264, if_neg bw265, if_neg bw266]; (try unfold rPut); first | done | rfl | (simp only [fa260 117 (by decide), fa258 117 (by decide), fa256 117 (by decide), fa254 117 (by decide), q249, sMn, sMx]; done) | (simp only [fa260 117 (by decide), fa258 117 (by decide), fa256 117 (by decide), fa254 117 (by decide), q249, sMn, sMx]; rfl))), (show ig247 7426 = ((rMend (i 7424) x1 x2 x3 (a 118, a 117, i 7426, i 7427) (a 133, i 7452, i 7453)).2.1).2.2.1 from (by unfold rMend; unfold rAdd; simp only [if_pos bw264, if_neg bw265, if_neg bw266]; (try unfold rPut); first | done | rfl | (simp only [q250, sMn, sMx]; done) | (simp only [q250, sMn, sMx]; rfl))), (show ig247 7427 = ((rMend (i 7424) x1 x2 x3 (a 118, a 117, i 7426, i 7427) (a 133, i 7452, i 7453)).2.1).2.2.2 from (by unfold rMend; unfold rAdd; simp only [if_pos bw264, if_neg bw265, if_neg bw266]; (try unfold rPut); first | done | rfl | (simp only [q251, sMn, sMx]; done) | (simp only [q251, sMn, sMx]; rfl))), (show a260 133 = ((rMend (i 7424) x1 x2 x3 (a 118, a 117, i 7426, i 7427) (a 133, i 7452, i 7453)).2.2).1 from (by unfold rMend; unfold rAdd; simp only [if_pos bw264, if_neg bw265, if_neg bw266]; (try unfold rPut); first | done | rfl | (simp only [ea260, ea258, (show ig247 7453 = i 7453 from kg247.fi 7453 rfl), ea256, q244, ea254, kg247.fa 133 rfl, sMn, sMx]; done) | (simp only [ea260, ea258, (show ig247 7453 = i 7453 from kg247.fi 7453 rfl), ea256, q244, ea254, kg247.fa 133 rfl, sMn, sMx]; rfl))), (show ((ig247 7453) + 1) = ((rMend (i 7424) x1 x2 x3 (a 118, a 117, i 7426, i 7427) (a 133, i 7452, i 7453)).2.2).2.1 from (by unfold rMend; unfold rAdd; simp only [if_pos bw264, if_neg bw265, if_neg bw266]; (try unfold rPut); first | done | rfl | (simp only [(show ig247 7453 = i 7453 from kg247.fi 7453 rfl), sMn, sMx]; done) | (simp only [(show ig247 7453 = i 7453 from kg247.fi 7453 rfl), sMn, sMx]; rfl))), (show ((ig247 7453) + 1) = ((rMend (i 7424) x1 x2 x3 (a 118, a 117, i 7426, i 7427) (a 133, i 7452, i 7453)).2.2).2.2 from (by unfold rMend; unfold rAdd; simp only [if_pos bw264, if_neg bw265, if_neg bw266]; (try unfold rPut); first | done | rfl | (simp only [(show ig247 7453 = i 7453 from kg247.fi 7453 rfl), sMn, sMx]; done) | (simp only [(show ig247 7453 = i 7453 from kg247.fi 7453 rfl), sMn, sMx]; rfl)))⟩, (kChL_cast (kChL_set4 (kChL_cast hE_chg (kg247.fa 133 rfl)) (hGg247.I.2.1 133) (d := (ig247 7453)) (or0 fig247_7453.1) (or113 c252 fig247_7453.2 s253 kor40) (or108 s253) (or109 s253 s255 kor1) (or110 s253 s257 kor2) (or111 s253 s259 kor3) ea254 ea256 ea258 ea260 (or222 w239 z241.1 z241.2 z243)) rfl)⟩⟩)
          ·
            have c267 : (ig247 7453).toInt = (40 : Int32).toInt := kd_neF c; clear c
            first | refine fo_goL mi_k142 fz142_52_2_55 [(5, .int 0), (4, .int vg242), (0, .ref 116), (1, .int x1), (2, .int x2), (3, .int x3)] [] (by rfl) ?_ | refine fo_goL mi_k142 fz142_79_2_55 [(5, .int 0), (4, .int vg242), (0, .ref 116), (1, .int x1), (2, .int x2), (3, .int x3)] [] (by rfl) ?_
            have lp268 : ∀ (nz : Nat) (i268 : Nat → Int32) (a268 : Nat → List Int32) (q268 : Nat → List Int64) (r268 : Nat → Nat) (l5_268 : Int32), kG yw142_116_L55 ig247 ag247 qg247 rg247 i268 a268 q268 r268 → ((0 : Int) ≤ l5_268.toInt) ∧ (l5_268.toInt ≤ 156) → kShf (ag247 133) (a268 133) l5_268.toInt.toNat → ((156 - l5_268.toInt)).toNat < nz → ko 7 (mi_h142, mi_c142) P (55, [(5, .int l5_268), (4, .int vg242), (0, .ref 116), (1, .int x1), (2, .int x2), (3, .int x3)], [], (0, 0), ks i268 a268 q268 r268) := by
              intro nz
              induction nz with
              | zero =>
                intro _ _ _ _ _ _ _ _ hm
                exact absurd hm (Nat.not_lt_zero _)
              | succ nz ih268 =>
                intro i268 a268 q268 r268 l5_268 hL268 p268_0 O268_0 hm268
                refine fo_goL mi_k142 fz142_55_2_60 [(5, .int l5_268), (4, .int vg242), (0, .ref 116), (1, .int x1), (2, .int x2), (3, .int x3)] [.int 156, .int l5_268] rfl ?_
                refine ft_ifS mi_k142 (decide (156 ≤ l5_268)) 85 63 [] (by rfl) (fun c => ?_) (fun c => ?_)
                ·
                  have c269 : (156 : Int32).toInt ≤ l5_268.toInt := kd_le c; clear c
                  have hG270 := kG_call hGg247 hL268 (by decide +kernel)
                  have qs271 : a268 133 = rShf (ag247 133) := kShf_eq O268_0 (or114 c269 p268_0.2 kor156) (hGg247.I.2.1 133) (hG270.I.2.1 133)
                  have fi268_7453 : ((0 : Int) ≤ (i268 7453).toInt) ∧ ((i268 7453).toInt ≤ 40) := hG270.I.1 7453
                  have efi268_7453 : (i268 7453).toInt = (ig247 7453).toInt := hL268.ti 7453 rfl
                  have s272 : ((i268 7453) - 1).toInt = (i268 7453).toInt - (1 : Int32).toInt := kd_sub (or115 c267 efi268_7453 kor40 kor1) (or116 fi268_7453.2 kor1)
                  have hJ273 := kG_i hG270 7453 rfl (v := ((i268 7453) - 1)) ⟨(or117 c267 efi268_7453 s272 kor40 kor1), (or118 fi268_7453.2 s272 kor1)⟩
                  have s274 : (4 * ((i268 7453) - 1)).toInt = 4 * ((i268 7453) - 1).toInt := kd_cmul 4 kor4 (or119 fi268_7453.1 s272 kor1) (or120 fi268_7453.2 s272 kor1)
                  first | refine fo_goI mi_k142 fz142_85_13_106 [.int x1, .int (4 * ((i268 7453) - 1)), .ref 133] (ku i268 7453 ((i268 7453) - 1)) (by rfl) ?_ | refine ft_goS mi_k142 13 106 [.int x1, .int (4 * ((i268 7453) - 1)), .ref 133] (by rfl) ?_ | refine ft_go mi_k142 13 106 [(5, .int l5_268), (4, .int vg242), (0, .ref 116), (1, .int x1), (2, .int x2), (3, .int x3)] [.int x1, .int (4 * ((i268 7453) - 1)), .ref 133] (ku i268 7453 ((i268 7453) - 1)) a268 q268 r268 (by rfl) ?_
                  refine ko_iast3 mi_k142.1 (n := 160) (c := 160) (ax := (0, 0, 0, 0, 0)) (mi_k142.2 _ _ (by rfl)) (by rfl) (ksG133 _ _ _ _) (ksA133 _ _ _ _) (hJ273.I.2.1 133) rfl (or121 c267 efi268_7453 s272 s274 kor40 kor1) (or122 fi268_7453.2 s272 s274 kor1) ?_
                  intro a275 ea275 fa275
                  have hJ275 := kG_a3 hJ273 133 rfl ea275 fa275 (kE_cset (or121 c267 efi268_7453 s272 s274 kor40 kor1) (or212 w239 z2) (or213 w239 z2))
                  have s276 : ((4 * ((i268 7453) - 1)) + 1).toInt = (4 * ((i268 7453) - 1)).toInt + (1 : Int32).toInt := kd_add (or123 c267 efi268_7453 s272 s274 kor40 kor1) (or124 fi268_7453.2 s272 s274 kor1)
                  refine fo_goS mi_k142 fz142_107_9_120 [.int x2, .int ((4 * ((i268 7453) - 1)) + 1), .ref 133] rfl ?_
                  refine ko_iast3 mi_k142.1 (n := 160) (c := 160) (ax := (0, 0, 0, 0, 0)) (mi_k142.2 _ _ (by rfl)) (by rfl) (ksG133 _ _ _ _) (ksA133 _ _ _ _) (hJ275.I.2.1 133) rfl (or125 c267 efi268_7453 s272 s274 s276 kor40 kor1) (or126 fi268_7453.2 s272 s274 s276 kor1) ?_
                  intro a277 ea277 fa277
                  have hJ277 := kG_a3 hJ275 133 rfl ea277 fa277 (kE_cset (or125 c267 efi268_7453 s272 s274 s276 kor40 kor1) (or127 c267 efi268_7453 fi268_7453.2 s272 s274 s276 kor40 kor1) (or215 w239))
                  have s278 : ((4 * ((i268 7453) - 1)) + 2).toInt = (4 * ((i268 7453) - 1)).toInt + (2 : Int32).toInt := kd_add (or128 c267 efi268_7453 s272 s274 kor40 kor1 kor2) (or129 fi268_7453.2 s272 s274 kor1 kor2)
                  refine fo_goS mi_k142 fz142_121_9_135 [.int vg242, .int ((4 * ((i268 7453) - 1)) + 2), .ref 133] rfl ?_
                  refine ko_iast3 mi_k142.1 (n := 160) (c := 160) (ax := (0, 0, 0, 0, 0)) (mi_k142.2 _ _ (by rfl)) (by rfl) (ksG133 _ _ _ _) (ksA133 _ _ _ _) (hJ277.I.2.1 133) rfl (or130 c267 efi268_7453 s272 s274 s278 kor40 kor1 kor2) (or131 fi268_7453.2 s272 s274 s278 kor1 kor2) ?_
                  intro a279 ea279 fa279
                  have hJ279 := kG_a3 hJ277 133 rfl ea279 fa279 (kE_cset (or130 c267 efi268_7453 s272 s274 s278 kor40 kor1 kor2) (or132 c267 efi268_7453 fi268_7453.2 s272 s274 s278 kor40 kor1 kor2) (or133 c267 efi268_7453 fi268_7453.2 s272 s274 s278 kor40 kor1 kor2))
                  have s280 : ((4 * ((i268 7453) - 1)) + 3).toInt = (4 * ((i268 7453) - 1)).toInt + (3 : Int32).toInt := kd_add (or134 c267 efi268_7453 s272 s274 kor40 kor1 kor3) (or135 fi268_7453.2 s272 s274 kor1 kor3)
                  refine fo_goS mi_k142 fz142_136_9_149 [.int x3, .int ((4 * ((i268 7453) - 1)) + 3), .ref 133] rfl ?_
                  refine ko_iast3 mi_k142.1 (n := 160) (c := 160) (ax := (0, 0, 0, 0, 0)) (mi_k142.2 _ _ (by rfl)) (by rfl) (ksG133 _ _ _ _) (ksA133 _ _ _ _) (hJ279.I.2.1 133) rfl (or136 c267 efi268_7453 s272 s274 s280 kor40 kor1 kor3) (or137 fi268_7453.2 s272 s274 s280 kor1 kor3) ?_
                  intro a281 ea281 fa281
                  have hJ281 := kG_a3 hJ279 133 rfl ea281 fa281 (kE_cset (or136 c267 efi268_7453 s272 s274 s280 kor40 kor1 kor3) (or138 c267 efi268_7453 fi268_7453.2 s272 s274 s280 kor40 kor1 kor3) (or139 c267 efi268_7453 fi268_7453.2 s272 s274 s280 kor40 kor1 kor3))
                  have s282 : (((i268 7453) - 1) + 1).toInt = ((i268 7453) - 1).toInt + (1 : Int32).toInt := kd_add (or140 fi268_7453.1 s272 kor1) (or141 fi268_7453.2 s272 s274 kor1)
                  have hJ283 := kG_i hJ281 7453 rfl (v := (((i268 7453) - 1) + 1)) ⟨(or142 fi268_7453.1 s272 s282 kor1), (or143 fi268_7453.2 s272 s274 s282 kor1)⟩
                  have hJ284 := kG_i hJ283 7452 rfl (v := (((i268 7453) - 1) + 1)) ⟨(or142 fi268_7453.1 s272 s282 kor1), (or143 fi268_7453.2 s272 s274 s282 kor1)⟩
                  first | refine fo_goI mi_k142 fz142_150_11_170 [.int vg242] (ku (ku (ku i268 7453 ((i268 7453) - 1)) 7453 (((i268 7453) - 1) + 1)) 7452 (((i268 7453) - 1) + 1)) (by rfl) ?_ | refine ft_go mi_k142 11 170 [(5, .int l5_268), (4, .int vg242), (0, .ref 116), (1, .int x1), (2, .int x2), (3, .int x3)] [.int vg242] (ku (ku (ku i268 7453 ((i268 7453) - 1)) 7453 (((i268 7453) - 1) + 1)) 7452 (((i268 7453) - 1) + 1)) a281 q268 r268 (by rfl) ?_
                  have bw285 : (kTold (i 7424) x1 x2 ∧ kFit x2 x3) := ⟨(or220 w239 z2), (kFit_4 (or39 w239)).mpr (or221 z241.1 z241.2)⟩
                  have bw286 : ¬ ((rGet x1 x2 (a 118, a 117, i 7426, i 7427)).toInt = x3.toInt) := (or106 c246 u245)
                  have bw287 : (i 7453).toInt = 40 := (or144 c267 efig247_7453 fi_7453.2 kor40)
                  exact ft_ret mi_k142 (by rfl) (hP vg242 _ _ _ _ hJ284 ⟨or102, ⟨⟨(show vg242 = (rMend (i 7424) x1 x2 x3 (a 118, a 117, i 7426, i 7427) (a 133, i 7452, i 7453)).1 from (by unfold rMend; unfold rAdd; simp only [if_pos bw285, if_neg bw286, if_pos bw287]; (try unfold rPut); first | done | rfl | (simp only [q244, sMn, sMx]; done) | (simp only [q244, sMn, sMx]; rfl))), (show a281 118 = ((rMend (i 7424) x1 x2 x3 (a 118, a 117, i 7426, i 7427) (a 133, i 7452, i 7453)).2.1).1 from (by unfold rMend; unfold rAdd; simp only [if_pos bw285, if_neg bw286, if_pos bw287]; (try unfold rPut); first | done | rfl | (simp only [fa281 118 (by decide), fa279 118 (by decide), fa277 118 (by decide), fa275 118 (by decide), hL268.fa 118 rfl, q248, sMn, sMx]; done) | (simp only [fa281 118 (by decide), fa279 118 (by decide), fa277 118 (by decide), fa275 118 (by decide), hL268.fa 118 rfl, q248, sMn, sMx]; rfl))), (show a281 117 = ((rMend (i 7424) x1 x2 x3 (a 118, a 117, i 7426, i 7427) (a 133, i 7452, i 7453)).2.1).2.1 from (by unfold rMend; unfold rAdd; simp only [if_pos bw285, if_neg bw286, if_pos bw287]; (try unfold rPut); first | done | rfl | (simp only [fa281 117 (by decide), fa279 117 (by decide), fa277 117 (by decide), fa275 117 (by decide), hL268.fa 117 rfl, q249, sMn, sMx]; done) | (simp only [fa281 117 (by decide), fa279 117 (by decide), fa277 117 (by decide), fa275 117 (by decide), hL268.fa 117 rfl, q249, sMn, sMx]; rfl))), (show i268 7426 = ((rMend (i 7424) x1 x2 x3 (a 118, a 117, i 7426, i 7427) (a 133, i 7452, i 7453)).2.1).2.2.1 from (by unfold rMend; unfold rAdd; simp only [if_pos bw285, if_neg bw286, if_pos bw287]; (try unfold rPut); first | done | rfl | (simp only [(show i268 7426 = ig247 7426 from hL268.fi 7426 rfl), q250, sMn, sMx]; done) | (simp only [(show i268 7426 = ig247 7426 from hL268.fi 7426 rfl), q250, sMn, sMx]; rfl))), (show i268 7427 = ((rMend (i 7424) x1 x2 x3 (a 118, a 117, i 7426, i 7427) (a 133, i 7452, i 7453)).2.1).2.2.2 from (by unfold rMend; unfold rAdd; simp only [if_pos bw285, if_neg bw286, if_pos bw287]; (try unfold rPut); first | done | rfl | (simp only [(show i268 7427 = ig247 7427 from hL268.fi 7427 rfl), q251, sMn, sMx]; done) | (simp only [(show i268 7427 = ig247 7427 from hL268.fi 7427 rfl), q251, sMn, sMx]; rfl))), (show a281 133 = ((rMend (i 7424) x1 x2 x3 (a 118, a 117, i 7426, i 7427) (a 133, i 7452, i 7453)).2.2).1 from (by unfold rMend; unfold rAdd; simp only [if_pos bw285, if_neg bw286, if_pos bw287]; (try unfold rPut); first | done | rfl | (simp only [ea281, ea279, (show i268 7453 = ig247 7453 from hL268.fi 7453 rfl), (show ig247 7453 = i 7453 from kg247.fi 7453 rfl), ea277, q244, ea275, qs271, kg247.fa 133 rfl, sMn, sMx]; done) | (simp only [ea281, ea279, (show i268 7453 = ig247 7453 from hL268.fi 7453 rfl), (show ig247 7453 = i 7453 from kg247.fi 7453 rfl), ea277, q244, ea275, qs271, kg247.fa 133 rfl, sMn, sMx]; rfl))), (show (((i268 7453) - 1) + 1) = ((rMend (i 7424) x1 x2 x3 (a 118, a 117, i 7426, i 7427) (a 133, i 7452, i 7453)).2.2).2.1 from (by unfold rMend; unfold rAdd; simp only [if_pos bw285, if_neg bw286, if_pos bw287]; (try unfold rPut); first | done | rfl | (simp only [(show i268 7453 = ig247 7453 from hL268.fi 7453 rfl), (show ig247 7453 = i 7453 from kg247.fi 7453 rfl), sMn, sMx]; done) | (simp only [(show i268 7453 = ig247 7453 from hL268.fi 7453 rfl), (show ig247 7453 = i 7453 from kg247.fi 7453 rfl), sMn, sMx]; rfl))), (show (((i268 7453) - 1) + 1) = ((rMend (i 7424) x1 x2 x3 (a 118, a 117, i 7426, i 7427) (a 133, i 7452, i 7453)).2.2).2.2 from (by unfold rMend; unfold rAdd; simp only [if_pos bw285, if_neg bw286, if_pos bw287]; (try unfold rPut); first | done | rfl | (simp only [(show i268 7453 = ig247 7453 from hL268.fi 7453 rfl), (show ig247 7453 = i 7453 from kg247.fi 7453 rfl), sMn, sMx]; done) | (simp only [(show i268 7453 = ig247 7453 from hL268.fi 7453 rfl), (show ig247 7453 = i 7453 from kg247.fi 7453 rfl), sMn, sMx]; rfl)))⟩, (kChL_cast (kChL_set4 (kChL_cast (kShf_end O268_0 (or114 c269 p268_0.2 kor156) (hL268.I.2.1 133) (kChL_cast hE_chg (kg247.fa 133 rfl))) rfl) (hJ273.I.2.1 133) (d := ((i268 7453) - 1)) (or117 c267 efi268_7453 s272 kor40 kor1) (or145 fi268_7453.2 s272 s274 kor1) (or108 s274) (or109 s274 s276 kor1) (or110 s274 s278 kor2) (or111 s274 s280 kor3) ea275 ea277 ea279 ea281 (or222 w239 z241.1 z241.2 z243)) rfl)⟩⟩)
                ·
                  have c288 : l5_268.toInt < (156 : Int32).toInt := kd_leF c; clear c
                  have s289 : (l5_268 + 4).toInt = l5_268.toInt + (4 : Int32).toInt := kd_add (or146 p268_0.1 kor4) (or147 p268_0.2 kor4)
                  refine fo_goS mi_k142 fz142_63_8_77 [.int (l5_268 + 4), .ref 133, .int l5_268, .ref 133] rfl ?_
                  refine ko_iald3 mi_k142.1 (n := 160) (c := 160) (ax := (0, 0, 0, 0, 0)) (mi_k142.2 _ _ (by rfl)) (by rfl) (ksG133 _ _ _ _) (hL268.I.2.1 133) rfl (or148 p268_0.1 s289 kor4) (or149 c288 s289 kor156 kor4) ?_
                  have r290 : ((((l5_268 + 4).toInt % 4) = 0 → (0 : Int) ≤ ((a268 133).getD (l5_268 + 4).toNatClampNeg 0).toInt ∧ ((a268 133).getD (l5_268 + 4).toNatClampNeg 0).toInt ≤ 7)) ∧ ((((l5_268 + 4).toInt % 4) = 1 → (0 : Int) ≤ ((a268 133).getD (l5_268 + 4).toNatClampNeg 0).toInt ∧ ((a268 133).getD (l5_268 + 4).toNatClampNeg 0).toInt ≤ 6)) := kE_ccond hL268.I (j := (l5_268 + 4)) (or148 p268_0.1 s289 kor4)
                  refine ko_iast3 mi_k142.1 (n := 160) (c := 160) (ax := (0, 0, 0, 0, 0)) (mi_k142.2 _ _ (by rfl)) (by rfl) (ksG133 _ _ _ _) (ksA133 _ _ _ _) (hL268.I.2.1 133) rfl (or0 p268_0.1) (or150 p268_0.2) ?_
                  intro a291 ea291 fa291
                  have hJ291 := kG_a3 hL268 133 rfl ea291 fa291 (kE_cset (or0 p268_0.1) (by have := kor4; have := kor40; have := kor156; omega) (by have := kor4; have := kor40; have := kor156; omega))
                  have s292 : (l5_268 + 1).toInt = l5_268.toInt + (1 : Int32).toInt := kd_add (or98 p268_0.1 kor1) (or151 p268_0.2 kor1)
                  first | refine fo_goL mi_k142 fz142_52_2_55 [(5, .int (l5_268 + 1)), (4, .int vg242), (0, .ref 116), (1, .int x1), (2, .int x2), (3, .int x3)] [] (by rfl) ?_ | refine fo_goL mi_k142 fz142_79_2_55 [(5, .int (l5_268 + 1)), (4, .int vg242), (0, .ref 116), (1, .int x1), (2, .int x2), (3, .int x3)] [] (by rfl) ?_
                  exact ih268 _ _ _ _ _ hJ291 (or152 c288 p268_0.1 s292 kor156 kor1) (kShf_step O268_0 (hL268.I.2.1 133) (or0 p268_0.1) (or153 c288 kor156) (or154 s289 kor4) (or155 s292 kor1) ea291 rfl) (kj_meas (or156 s292 kor1) (or157 c288 kor156) hm268)
            exact lp268 _ _ _ _ _ _ (kG_self _ hGg247.I hGg247.R) (or158 kor0) (kShf_start rfl kn0) (Nat.lt_succ_self _)
        ·
          have c293 : vg242.toInt = x3.toInt := kd_neF c; clear c
          refine fo_goS mi_k142 fz142_33_1_35 [.int vg242] rfl ?_
          have bw294 : (kTold (i 7424) x1 x2 ∧ kFit x2 x3) := ⟨(or220 w239 z2), (kFit_4 (or39 w239)).mpr (or221 z241.1 z241.2)⟩
          have bw295 : (rGet x1 x2 (a 118, a 117, i 7426, i 7427)).toInt = x3.toInt := (or160 c293 u245)
          exact ft_ret mi_k142 (by rfl) (hP vg242 _ _ _ _ hG ⟨(or159 hp0), ⟨⟨(show vg242 = (rMend (i 7424) x1 x2 x3 (a 118, a 117, i 7426, i 7427) (a 133, i 7452, i 7453)).1 from (by unfold rMend; simp only [if_pos bw294, if_pos bw295]; first | done | rfl | (simp only [q244, sMn, sMx]; done) | (simp only [q244, sMn, sMx]; rfl))), (show a 118 = ((rMend (i 7424) x1 x2 x3 (a 118, a 117, i 7426, i 7427) (a 133, i 7452, i 7453)).2.1).1 from (by unfold rMend; simp only [if_pos bw294, if_pos bw295]; first | done | rfl | (simp only [sMn, sMx]; done) | (simp only [sMn, sMx]; rfl))), (show a 117 = ((rMend (i 7424) x1 x2 x3 (a 118, a 117, i 7426, i 7427) (a 133, i 7452, i 7453)).2.1).2.1 from (by unfold rMend; simp only [if_pos bw294, if_pos bw295]; first | done | rfl | (simp only [sMn, sMx]; done) | (simp only [sMn, sMx]; rfl))), (show i 7426 = ((rMend (i 7424) x1 x2 x3 (a 118, a 117, i 7426, i 7427) (a 133, i 7452, i 7453)).2.1).2.2.1 from (by unfold rMend; simp only [if_pos bw294, if_pos bw295]; first | done | rfl | (simp only [sMn, sMx]; done) | (simp only [sMn, sMx]; rfl))), (show i 7427 = ((rMend (i 7424) x1 x2 x3 (a 118, a 117, i 7426, i 7427) (a 133, i 7452, i 7453)).2.1).2.2.2 from (by unfold rMend; simp only [if_pos bw294, if_pos bw295]; first | done | rfl | (simp only [sMn, sMx]; done) | (simp only [sMn, sMx]; rfl))), (show a 133 = ((rMend (i 7424) x1 x2 x3 (a 118, a 117, i 7426, i 7427) (a 133, i 7452, i 7453)).2.2).1 from (by unfold rMend; simp only [if_pos bw294, if_pos bw295]; first | done | rfl | (simp only [sMn, sMx]; done) | (simp only [sMn, sMx]; rfl))), (show i 7452 = ((rMend (i 7424) x1 x2 x3 (a 118, a 117, i 7426, i 7427) (a 133, i 7452, i 7453)).2.2).2.1 from (by unfold rMend; simp only [if_pos bw294, if_pos bw295]; first | done | rfl | (simp only [sMn, sMx]; done) | (simp only [sMn, sMx]; rfl))), (show i 7453 = ((rMend (i 7424) x1 x2 x3 (a 118, a 117, i 7426, i 7427) (a 133, i 7452, i 7453)).2.2).2.2 from (by unfold rMend; simp only [if_pos bw294, if_pos bw295]; first | done | rfl | (simp only [sMn, sMx]; done) | (simp only [sMn, sMx]; rfl)))⟩, (kChL_cast hE_chg rfl)⟩⟩)
      ·
        subst eg240
        have z296 : ¬ (((1 : Int) ≤ x3.toInt) ∧ (x3.toInt ≤ 5)) := hg240
        first | refine fo_goS mi_k142 fz142_6_2_18 [.int (-1)] (by rfl) ?_ | refine fo_goS mi_k142 fz142_14_2_18 [.int (-1)] (by rfl) ?_
        have bw297 : ¬ (kTold (i 7424) x1 x2 ∧ kFit x2 x3) := (fun z => absurd ((kFit_4 (or39 w239)).mp z.2) (or223 z296))
        exact ft_ret mi_k142 (by rfl) (hP (-1) _ _ _ _ hG ⟨(or159 hp0), ⟨⟨(show ((-1) : Int32) = (rMend (i 7424) x1 x2 x3 (a 118, a 117, i 7426, i 7427) (a 133, i 7452, i 7453)).1 from (by unfold rMend; simp only [if_neg bw297]; first | done | rfl | (simp only [sMn, sMx]; done) | (simp only [sMn, sMx]; rfl))), (show a 118 = ((rMend (i 7424) x1 x2 x3 (a 118, a 117, i 7426, i 7427) (a 133, i 7452, i 7453)).2.1).1 from (by unfold rMend; simp only [if_neg bw297]; first | done | rfl | (simp only [sMn, sMx]; done) | (simp only [sMn, sMx]; rfl))), (show a 117 = ((rMend (i 7424) x1 x2 x3 (a 118, a 117, i 7426, i 7427) (a 133, i 7452, i 7453)).2.1).2.1 from (by unfold rMend; simp only [if_neg bw297]; first | done | rfl | (simp only [sMn, sMx]; done) | (simp only [sMn, sMx]; rfl))), (show i 7426 = ((rMend (i 7424) x1 x2 x3 (a 118, a 117, i 7426, i 7427) (a 133, i 7452, i 7453)).2.1).2.2.1 from (by unfold rMend; simp only [if_neg bw297]; first | done | rfl | (simp only [sMn, sMx]; done) | (simp only [sMn, sMx]; rfl))), (show i 7427 = ((rMend (i 7424) x1 x2 x3 (a 118, a 117, i 7426, i 7427) (a 133, i 7452, i 7453)).2.1).2.2.2 from (by unfold rMend; simp only [if_neg bw297]; first | done | rfl | (simp only [sMn, sMx]; done) | (simp only [sMn, sMx]; rfl))), (show a 133 = ((rMend (i 7424) x1 x2 x3 (a 118, a 117, i 7426, i 7427) (a 133, i 7452, i 7453)).2.2).1 from (by unfold rMend; simp only [if_neg bw297]; first | done | rfl | (simp only [sMn, sMx]; done) | (simp only [sMn, sMx]; rfl))), (show i 7452 = ((rMend (i 7424) x1 x2 x3 (a 118, a 117, i 7426, i 7427) (a 133, i 7452, i 7453)).2.2).2.1 from (by unfold rMend; simp only [if_neg bw297]; first | done | rfl | (simp only [sMn, sMx]; done) | (simp only [sMn, sMx]; rfl))), (show i 7453 = ((rMend (i 7424) x1 x2 x3 (a 118, a 117, i 7426, i 7427) (a 133, i 7452, i 7453)).2.2).2.2 from (by unfold rMend; simp only [if_neg bw297]; first | done | rfl | (simp only [sMn, sMx]; done) | (simp only [sMn, sMx]; rfl)))⟩, (kChL_cast hE_chg rfl)⟩⟩)
    by_cases w298 : x2.toInt = 5
    ·
      refine ko_eq (x1 := (11, [(0, .ref 116), (1, .int x1), (2, .int x2), (3, .int x3)], [.int x3, .int 5], (0, 0), ks i a q r)) (by rw [(kj_eq w298 (by decide) : x2 = 5)]) ?_
      refine ko_callPI mi_k142.1 (pc := 11) (ls := [(0, .ref 116), (1, .int x1), (2, .int x2), (3, .int x3)]) (st := [.int x3, .int 5]) (h := ks i a q r) (i := (.invokestatic 144, 3, 139, 0, 9, 0, 388)) (mi_k142.2 _ _ (by rfl)) (ft_invS mi_pq139 (by rfl)) (cy := mi_c139) mi_pq139 rfl (ke139_l05 hG.I hG.R x3) (by decide) ?_
      intro vg299 hg299
      rcases hg299 with ⟨eg299, hg299⟩ | ⟨eg299, hg299⟩
      ·
        subst eg299
        have z300 : ((0 : Int) ≤ x3.toInt) ∧ (x3.toInt ≤ 1) := hg299
        refine fo_goS mi_k142 fz142_14_4_22 [.int x2, .int x1, .ref 116] rfl ?_
        refine ko_callPI mi_k142.1 (pc := 22) (ls := [(0, .ref 116), (1, .int x1), (2, .int x2), (3, .int x3)]) (st := [.int x2, .int x1, .ref 116]) (h := ks i a q r) (i := (.invokevirtual 147, 3, 140, 0, 9, 0, 389)) (mi_k142.2 _ _ (by rfl)) (ft_invS mi_pq140 (by rfl)) (cy := mi_c140) mi_pq140 rfl (ke140_116 hG.I hG.R x1 x2 (or224 w298 z2) (or225 w298)) (by decide) ?_
        intro vg301 hg301
        obtain ⟨hg301, og301⟩ := hg301
        have z302 : ((x2.toInt = 4) → (((1 : Int) ≤ vg301.toInt) ∧ (vg301.toInt ≤ 5))) := hg301
        have q303 : vg301 = rGet x1 x2 (a 118, a 117, i 7426, i 7427) := og301
        have u304 : vg301.toInt = (rGet x1 x2 (a 118, a 117, i 7426, i 7427)).toInt := congrArg Int32.toInt q303
        refine fo_goL mi_k142 fz142_25_3_30 [(4, .int vg301), (0, .ref 116), (1, .int x1), (2, .int x2), (3, .int x3)] [.int x3, .int vg301] rfl ?_
        refine ft_ifS mi_k142 (vg301 != x3) 36 33 [] (by rfl) (fun c => ?_) (fun c => ?_)
        ·
          have c305 : vg301.toInt ≠ x3.toInt := kd_ne c; clear c
          refine fo_goS mi_k142 fz142_36_4_40 [.int x3, .int x2, .int x1, .ref 116] rfl ?_
          refine ko_callN mi_k142.1 (pc := 40) (ls := [(4, .int vg301), (0, .ref 116), (1, .int x1), (2, .int x2), (3, .int x3)]) (st := [.int x3, .int x2, .int x1, .ref 116]) (h := ks i a q r) (i := (.invokevirtual 150, 3, 141, 0, 9, 0, 390)) (mi_k142.2 _ _ (by rfl)) (ft_invS mi_pq141 (by rfl)) (cy := mi_c141) mi_pq141 rfl (ke141_116 hG.I hG.R x1 x2 x3 (or224 w298 z2) (or225 w298) (or40 w298)) (by decide) ?_
          intro ig306 ag306 qg306 rg306 kg306 hg306
          have hGg306 := kG_call hG kg306 (by decide +kernel)
          obtain ⟨hg306, og306⟩ := hg306
          have q307 : ag306 118 = (rSet x1 x2 x3 (a 118, a 117, i 7426, i 7427)).1 := og306.1
          have q308 : ag306 117 = (rSet x1 x2 x3 (a 118, a 117, i 7426, i 7427)).2.1 := og306.2.1
          have q309 : ig306 7426 = (rSet x1 x2 x3 (a 118, a 117, i 7426, i 7427)).2.2.1 := og306.2.2.1
          have q310 : ig306 7427 = (rSet x1 x2 x3 (a 118, a 117, i 7426, i 7427)).2.2.2 := og306.2.2.2
          have fig306_7453 : ((0 : Int) ≤ (ig306 7453).toInt) ∧ ((ig306 7453).toInt ≤ 40) := hGg306.I.1 7453
          have efig306_7453 : (ig306 7453).toInt = (i 7453).toInt := kg306.ti 7453 rfl
          refine fo_goS mi_k142 fz142_43_3_49 [.int 40, .int (ig306 7453)] rfl ?_
          refine ft_ifS mi_k142 ((ig306 7453) != 40) 95 52 [] (by rfl) (fun c => ?_) (fun c => ?_)
          ·
            have c311 : (ig306 7453).toInt ≠ (40 : Int32).toInt := kd_ne c; clear c
            have s312 : (4 * (ig306 7453)).toInt = 4 * (ig306 7453).toInt := kd_cmul 4 kor4 (or79 fig306_7453.1) (or80 fig306_7453.2)
            refine fo_goS mi_k142 fz142_95_7_106 [.int x1, .int (4 * (ig306 7453)), .ref 133] rfl ?_
            refine ko_iast3 mi_k142.1 (n := 160) (c := 160) (ax := (0, 0, 0, 0, 0)) (mi_k142.2 _ _ (by rfl)) (by rfl) (ksG133 _ _ _ _) (ksA133 _ _ _ _) (hGg306.I.2.1 133) rfl (or81 fig306_7453.1 s312) (or82 c311 fig306_7453.2 s312 kor40) ?_
            intro a313 ea313 fa313
            have hJ313 := kG_a3 hGg306 133 rfl ea313 fa313 (kE_cset (or81 fig306_7453.1 s312) (or226 w298 z2) (or227 w298 z2))
            have s314 : ((4 * (ig306 7453)) + 1).toInt = (4 * (ig306 7453)).toInt + (1 : Int32).toInt := kd_add (or84 fig306_7453.1 s312 kor1) (or85 fig306_7453.2 s312 kor1)
            refine fo_goS mi_k142 fz142_107_9_120 [.int x2, .int ((4 * (ig306 7453)) + 1), .ref 133] rfl ?_
            refine ko_iast3 mi_k142.1 (n := 160) (c := 160) (ax := (0, 0, 0, 0, 0)) (mi_k142.2 _ _ (by rfl)) (by rfl) (ksG133 _ _ _ _) (ksA133 _ _ _ _) (hJ313.I.2.1 133) rfl (or86 fig306_7453.1 s312 s314 kor1) (or87 c311 fig306_7453.2 s312 s314 kor40 kor1) ?_
            intro a315 ea315 fa315
            have hJ315 := kG_a3 hJ313 133 rfl ea315 fa315 (kE_cset (or86 fig306_7453.1 s312 s314 kor1) (or228 w298) (or229 w298))
            have s316 : ((4 * (ig306 7453)) + 2).toInt = (4 * (ig306 7453)).toInt + (2 : Int32).toInt := kd_add (or90 fig306_7453.1 s312 kor2) (or91 fig306_7453.2 s312 kor2)
            refine fo_goS mi_k142 fz142_121_9_135 [.int vg301, .int ((4 * (ig306 7453)) + 2), .ref 133] rfl ?_
            refine ko_iast3 mi_k142.1 (n := 160) (c := 160) (ax := (0, 0, 0, 0, 0)) (mi_k142.2 _ _ (by rfl)) (by rfl) (ksG133 _ _ _ _) (ksA133 _ _ _ _) (hJ315.I.2.1 133) rfl (or92 fig306_7453.1 s312 s316 kor2) (or93 c311 fig306_7453.2 s312 s316 kor40 kor2) ?_
            intro a317 ea317 fa317
            have hJ317 := kG_a3 hJ315 133 rfl ea317 fa317 (kE_cset (or92 fig306_7453.1 s312 s316 kor2) (by have := kor1; have := kor2; have := kor40; omega) (by have := kor1; have := kor2; have := kor40; omega))
            have s318 : ((4 * (ig306 7453)) + 3).toInt = (4 * (ig306 7453)).toInt + (3 : Int32).toInt := kd_add (or94 fig306_7453.1 s312 kor3) (or95 fig306_7453.2 s312 kor3)
            refine fo_goS mi_k142 fz142_136_9_149 [.int x3, .int ((4 * (ig306 7453)) + 3), .ref 133] rfl ?_
            refine ko_iast3 mi_k142.1 (n := 160) (c := 160) (ax := (0, 0, 0, 0, 0)) (mi_k142.2 _ _ (by rfl)) (by rfl) (ksG133 _ _ _ _) (ksA133 _ _ _ _) (hJ317.I.2.1 133) rfl (or96 fig306_7453.1 s312 s318 kor3) (or97 c311 fig306_7453.2 s312 s318 kor40 kor3) ?_
            intro a319 ea319 fa319
            have hJ319 := kG_a3 hJ317 133 rfl ea319 fa319 (kE_cset (or96 fig306_7453.1 s312 s318 kor3) (or201 z300.1 z300.2) (or202 z300.1 z300.2))
            have s320 : ((ig306 7453) + 1).toInt = (ig306 7453).toInt + (1 : Int32).toInt := kd_add (or98 fig306_7453.1 kor1) (or99 fig306_7453.2 kor1)
            have hJ321 := kG_i hJ319 7453 rfl (v := ((ig306 7453) + 1)) ⟨(or100 fig306_7453.1 s320 kor1), (or101 c311 fig306_7453.2 s312 s320 kor40 kor1)⟩
            have hJ322 := kG_i hJ321 7452 rfl (v := ((ig306 7453) + 1)) ⟨(or100 fig306_7453.1 s320 kor1), (or101 c311 fig306_7453.2 s312 s320 kor40 kor1)⟩
            first | refine fo_goI mi_k142 fz142_150_11_170 [.int vg301] (ku (ku ig306 7453 ((ig306 7453) + 1)) 7452 ((ig306 7453) + 1)) (by rfl) ?_ | refine ft_go mi_k142 11 170 [(4, .int vg301), (0, .ref 116), (1, .int x1), (2, .int x2), (3, .int x3)] [.int vg301] (ku (ku ig306 7453 ((ig306 7453) + 1)) 7452 ((ig306 7453) + 1)) a319 qg306 rg306 (by rfl) ?_
            have bw323 : (kTold (i 7424) x1 x2 ∧ kFit x2 x3) := ⟨(or230 w298 z2), (kFit_5 (or43 w298)).mpr (or205 z300.1 z300.2)⟩
            have bw324 : ¬ ((rGet x1 x2 (a 118, a 117, i 7426, i 7427)).toInt = x3.toInt) := (or106 c305 u304)
            have bw325 : ¬ ((i 7453).toInt = 40) := (or107 c311 efig306_7453 fig306_7453.2 s312 kor40)
            exact ft_ret mi_k142 (by rfl) (hP vg301 _ _ _ _ hJ322 ⟨or102, ⟨⟨(show vg301 = (rMend (i 7424) x1 x2 x3 (a 118, a 117, i 7426, i 7427) (a 133, i 7452, i 7453)).1 from (by unfold rMend; unfold rAdd; simp only [if_pos bw323, if_neg bw324, if_neg bw325]; (try unfold rPut); first | done | rfl | (simp only [q303, sMn, sMx]; done) | (simp only [q303, sMn, sMx]; rfl))), (show a319 118 = ((rMend (i 7424) x1 x2 x3 (a 118, a 117, i 7426, i 7427) (a 133, i 7452, i 7453)).2.1).1 from (by unfold rMend; unfold rAdd; simp only [if_pos bw323, if_neg bw324, if_neg bw325]; (try unfold rPut); first | done | rfl | (simp only [fa319 118 (by decide), fa317 118 (by decide), fa315 118 (by decide), fa313 118 (by decide), q307, sMn, sMx]; done) | (simp only [fa319 118 (by decide), fa317 118 (by decide), fa315 118 (by decide), fa313 118 (by decide), q307, sMn, sMx]; rfl))), (show a319 117 = ((rMend (i 7424) x1 x2 x3 (a 118, a 117, i 7426, i 7427) (a 133, i 7452, i 7453)).2.1).2.1 from (by unfold rMend; unfold rAdd; simp only [if_pos bw323, if_neg bw324, if_neg bw325]; (try unfold rPut); first | done | rfl | (simp only [fa319 117 (by decide), fa317 117 (by decide), fa315 117 (by decide), fa313 117 (by decide), q308, sMn, sMx]; done) | (simp only [fa319 117 (by decide), fa317 117 (by decide), fa315 117 (by decide), fa313 117 (by decide), q308, sMn, sMx]; rfl))), (show ig306 7426 = ((rMend (i 7424) x1 x2 x3 (a 118, a 117, i 7426, i 7427) (a 133, i 7452, i 7453)).2.1).2.2.1 from (by unfold rMend; unfold rAdd; simp only [if_pos bw323, if_neg bw324, if_neg bw325]; (try unfold rPut); first | done | rfl | (simp only [q309, sMn, sMx]; done) | (simp only [q309, sMn, sMx]; rfl))), (show ig306 7427 = ((rMend (i 7424) x1 x2 x3 (a 118, a 117, i 7426, i 7427) (a 133, i 7452, i 7453)).2.1).2.2.2 from (by unfold rMend; unfold rAdd; simp only [if_pos bw323, if_neg bw324, if_neg bw325]; (try unfold rPut); first | done | rfl | (simp only [q310, sMn, sMx]; done) | (simp only [q310, sMn, sMx]; rfl))), (show a319 133 = ((rMend (i 7424) x1 x2 x3 (a 118, a 117, i 7426, i 7427) (a 133, i 7452, i 7453)).2.2).1 from (by unfold rMend; unfold rAdd; simp only [if_pos bw323, if_neg bw324, if_neg bw325]; (try unfold rPut); first | done | rfl | (simp only [ea319, ea317, (show ig306 7453 = i 7453 from kg306.fi 7453 rfl), ea315, q303, ea313, kg306.fa 133 rfl, sMn, sMx]; done) | (simp only [ea319, ea317, (show ig306 7453 = i 7453 from kg306.fi 7453 rfl), ea315, q303, ea313, kg306.fa 133 rfl, sMn, sMx]; rfl))), (show ((ig306 7453) + 1) = ((rMend (i 7424) x1 x2 x3 (a 118, a 117, i 7426, i 7427) (a 133, i 7452, i 7453)).2.2).2.1 from (by unfold rMend; unfold rAdd; simp only [if_pos bw323, if_neg bw324, if_neg bw325]; (try unfold rPut); first | done | rfl | (simp only [(show ig306 7453 = i 7453 from kg306.fi 7453 rfl), sMn, sMx]; done) | (simp only [(show ig306 7453 = i 7453 from kg306.fi 7453 rfl), sMn, sMx]; rfl))), (show ((ig306 7453) + 1) = ((rMend (i 7424) x1 x2 x3 (a 118, a 117, i 7426, i 7427) (a 133, i 7452, i 7453)).2.2).2.2 from (by unfold rMend; unfold rAdd; simp only [if_pos bw323, if_neg bw324, if_neg bw325]; (try unfold rPut); first | done | rfl | (simp only [(show ig306 7453 = i 7453 from kg306.fi 7453 rfl), sMn, sMx]; done) | (simp only [(show ig306 7453 = i 7453 from kg306.fi 7453 rfl), sMn, sMx]; rfl)))⟩, (kChL_cast (kChL_set4 (kChL_cast hE_chg (kg306.fa 133 rfl)) (hGg306.I.2.1 133) (d := (ig306 7453)) (or0 fig306_7453.1) (or113 c311 fig306_7453.2 s312 kor40) (or108 s312) (or109 s312 s314 kor1) (or110 s312 s316 kor2) (or111 s312 s318 kor3) ea313 ea315 ea317 ea319 (or231 w298)) rfl)⟩⟩)
          ·
            have c326 : (ig306 7453).toInt = (40 : Int32).toInt := kd_neF c; clear c
            first | refine fo_goL mi_k142 fz142_52_2_55 [(5, .int 0), (4, .int vg301), (0, .ref 116), (1, .int x1), (2, .int x2), (3, .int x3)] [] (by rfl) ?_ | refine fo_goL mi_k142 fz142_79_2_55 [(5, .int 0), (4, .int vg301), (0, .ref 116), (1, .int x1), (2, .int x2), (3, .int x3)] [] (by rfl) ?_
            have lp327 : ∀ (nz : Nat) (i327 : Nat → Int32) (a327 : Nat → List Int32) (q327 : Nat → List Int64) (r327 : Nat → Nat) (l5_327 : Int32), kG yw142_116_L55 ig306 ag306 qg306 rg306 i327 a327 q327 r327 → ((0 : Int) ≤ l5_327.toInt) ∧ (l5_327.toInt ≤ 156) → kShf (ag306 133) (a327 133) l5_327.toInt.toNat → ((156 - l5_327.toInt)).toNat < nz → ko 7 (mi_h142, mi_c142) P (55, [(5, .int l5_327), (4, .int vg301), (0, .ref 116), (1, .int x1), (2, .int x2), (3, .int x3)], [], (0, 0), ks i327 a327 q327 r327) := by
              intro nz
              induction nz with
              | zero =>
                intro _ _ _ _ _ _ _ _ hm
                exact absurd hm (Nat.not_lt_zero _)
              | succ nz ih327 =>
                intro i327 a327 q327 r327 l5_327 hL327 p327_0 O327_0 hm327
                refine fo_goL mi_k142 fz142_55_2_60 [(5, .int l5_327), (4, .int vg301), (0, .ref 116), (1, .int x1), (2, .int x2), (3, .int x3)] [.int 156, .int l5_327] rfl ?_
                refine ft_ifS mi_k142 (decide (156 ≤ l5_327)) 85 63 [] (by rfl) (fun c => ?_) (fun c => ?_)
                ·
                  have c328 : (156 : Int32).toInt ≤ l5_327.toInt := kd_le c; clear c
                  have hG329 := kG_call hGg306 hL327 (by decide +kernel)
                  have qs330 : a327 133 = rShf (ag306 133) := kShf_eq O327_0 (or114 c328 p327_0.2 kor156) (hGg306.I.2.1 133) (hG329.I.2.1 133)
                  have fi327_7453 : ((0 : Int) ≤ (i327 7453).toInt) ∧ ((i327 7453).toInt ≤ 40) := hG329.I.1 7453
                  have efi327_7453 : (i327 7453).toInt = (ig306 7453).toInt := hL327.ti 7453 rfl
                  have s331 : ((i327 7453) - 1).toInt = (i327 7453).toInt - (1 : Int32).toInt := kd_sub (or115 c326 efi327_7453 kor40 kor1) (or116 fi327_7453.2 kor1)
                  have hJ332 := kG_i hG329 7453 rfl (v := ((i327 7453) - 1)) ⟨(or117 c326 efi327_7453 s331 kor40 kor1), (or118 fi327_7453.2 s331 kor1)⟩
                  have s333 : (4 * ((i327 7453) - 1)).toInt = 4 * ((i327 7453) - 1).toInt := kd_cmul 4 kor4 (or119 fi327_7453.1 s331 kor1) (or120 fi327_7453.2 s331 kor1)
                  first | refine fo_goI mi_k142 fz142_85_13_106 [.int x1, .int (4 * ((i327 7453) - 1)), .ref 133] (ku i327 7453 ((i327 7453) - 1)) (by rfl) ?_ | refine ft_goS mi_k142 13 106 [.int x1, .int (4 * ((i327 7453) - 1)), .ref 133] (by rfl) ?_ | refine ft_go mi_k142 13 106 [(5, .int l5_327), (4, .int vg301), (0, .ref 116), (1, .int x1), (2, .int x2), (3, .int x3)] [.int x1, .int (4 * ((i327 7453) - 1)), .ref 133] (ku i327 7453 ((i327 7453) - 1)) a327 q327 r327 (by rfl) ?_
                  refine ko_iast3 mi_k142.1 (n := 160) (c := 160) (ax := (0, 0, 0, 0, 0)) (mi_k142.2 _ _ (by rfl)) (by rfl) (ksG133 _ _ _ _) (ksA133 _ _ _ _) (hJ332.I.2.1 133) rfl (or121 c326 efi327_7453 s331 s333 kor40 kor1) (or122 fi327_7453.2 s331 s333 kor1) ?_
                  intro a334 ea334 fa334
                  have hJ334 := kG_a3 hJ332 133 rfl ea334 fa334 (kE_cset (or121 c326 efi327_7453 s331 s333 kor40 kor1) (or226 w298 z2) (or227 w298 z2))
                  have s335 : ((4 * ((i327 7453) - 1)) + 1).toInt = (4 * ((i327 7453) - 1)).toInt + (1 : Int32).toInt := kd_add (or123 c326 efi327_7453 s331 s333 kor40 kor1) (or124 fi327_7453.2 s331 s333 kor1)
                  refine fo_goS mi_k142 fz142_107_9_120 [.int x2, .int ((4 * ((i327 7453) - 1)) + 1), .ref 133] rfl ?_
                  refine ko_iast3 mi_k142.1 (n := 160) (c := 160) (ax := (0, 0, 0, 0, 0)) (mi_k142.2 _ _ (by rfl)) (by rfl) (ksG133 _ _ _ _) (ksA133 _ _ _ _) (hJ334.I.2.1 133) rfl (or125 c326 efi327_7453 s331 s333 s335 kor40 kor1) (or126 fi327_7453.2 s331 s333 s335 kor1) ?_
                  intro a336 ea336 fa336
                  have hJ336 := kG_a3 hJ334 133 rfl ea336 fa336 (kE_cset (or125 c326 efi327_7453 s331 s333 s335 kor40 kor1) (or127 c326 efi327_7453 fi327_7453.2 s331 s333 s335 kor40 kor1) (or229 w298))
                  have s337 : ((4 * ((i327 7453) - 1)) + 2).toInt = (4 * ((i327 7453) - 1)).toInt + (2 : Int32).toInt := kd_add (or128 c326 efi327_7453 s331 s333 kor40 kor1 kor2) (or129 fi327_7453.2 s331 s333 kor1 kor2)
                  refine fo_goS mi_k142 fz142_121_9_135 [.int vg301, .int ((4 * ((i327 7453) - 1)) + 2), .ref 133] rfl ?_
                  refine ko_iast3 mi_k142.1 (n := 160) (c := 160) (ax := (0, 0, 0, 0, 0)) (mi_k142.2 _ _ (by rfl)) (by rfl) (ksG133 _ _ _ _) (ksA133 _ _ _ _) (hJ336.I.2.1 133) rfl (or130 c326 efi327_7453 s331 s333 s337 kor40 kor1 kor2) (or131 fi327_7453.2 s331 s333 s337 kor1 kor2) ?_
                  intro a338 ea338 fa338
                  have hJ338 := kG_a3 hJ336 133 rfl ea338 fa338 (kE_cset (or130 c326 efi327_7453 s331 s333 s337 kor40 kor1 kor2) (or132 c326 efi327_7453 fi327_7453.2 s331 s333 s337 kor40 kor1 kor2) (or133 c326 efi327_7453 fi327_7453.2 s331 s333 s337 kor40 kor1 kor2))
                  have s339 : ((4 * ((i327 7453) - 1)) + 3).toInt = (4 * ((i327 7453) - 1)).toInt + (3 : Int32).toInt := kd_add (or134 c326 efi327_7453 s331 s333 kor40 kor1 kor3) (or135 fi327_7453.2 s331 s333 kor1 kor3)
                  refine fo_goS mi_k142 fz142_136_9_149 [.int x3, .int ((4 * ((i327 7453) - 1)) + 3), .ref 133] rfl ?_
                  refine ko_iast3 mi_k142.1 (n := 160) (c := 160) (ax := (0, 0, 0, 0, 0)) (mi_k142.2 _ _ (by rfl)) (by rfl) (ksG133 _ _ _ _) (ksA133 _ _ _ _) (hJ338.I.2.1 133) rfl (or136 c326 efi327_7453 s331 s333 s339 kor40 kor1 kor3) (or137 fi327_7453.2 s331 s333 s339 kor1 kor3) ?_
                  intro a340 ea340 fa340
                  have hJ340 := kG_a3 hJ338 133 rfl ea340 fa340 (kE_cset (or136 c326 efi327_7453 s331 s333 s339 kor40 kor1 kor3) (or138 c326 efi327_7453 fi327_7453.2 s331 s333 s339 kor40 kor1 kor3) (or139 c326 efi327_7453 fi327_7453.2 s331 s333 s339 kor40 kor1 kor3))
                  have s341 : (((i327 7453) - 1) + 1).toInt = ((i327 7453) - 1).toInt + (1 : Int32).toInt := kd_add (or140 fi327_7453.1 s331 kor1) (or141 fi327_7453.2 s331 s333 kor1)
                  have hJ342 := kG_i hJ340 7453 rfl (v := (((i327 7453) - 1) + 1)) ⟨(or142 fi327_7453.1 s331 s341 kor1), (or143 fi327_7453.2 s331 s333 s341 kor1)⟩
                  have hJ343 := kG_i hJ342 7452 rfl (v := (((i327 7453) - 1) + 1)) ⟨(or142 fi327_7453.1 s331 s341 kor1), (or143 fi327_7453.2 s331 s333 s341 kor1)⟩
                  first | refine fo_goI mi_k142 fz142_150_11_170 [.int vg301] (ku (ku (ku i327 7453 ((i327 7453) - 1)) 7453 (((i327 7453) - 1) + 1)) 7452 (((i327 7453) - 1) + 1)) (by rfl) ?_ | refine ft_go mi_k142 11 170 [(5, .int l5_327), (4, .int vg301), (0, .ref 116), (1, .int x1), (2, .int x2), (3, .int x3)] [.int vg301] (ku (ku (ku i327 7453 ((i327 7453) - 1)) 7453 (((i327 7453) - 1) + 1)) 7452 (((i327 7453) - 1) + 1)) a340 q327 r327 (by rfl) ?_
                  have bw344 : (kTold (i 7424) x1 x2 ∧ kFit x2 x3) := ⟨(or230 w298 z2), (kFit_5 (or43 w298)).mpr (or205 z300.1 z300.2)⟩
                  have bw345 : ¬ ((rGet x1 x2 (a 118, a 117, i 7426, i 7427)).toInt = x3.toInt) := (or106 c305 u304)
                  have bw346 : (i 7453).toInt = 40 := (or144 c326 efig306_7453 fi_7453.2 kor40)
                  exact ft_ret mi_k142 (by rfl) (hP vg301 _ _ _ _ hJ343 ⟨or102, ⟨⟨(show vg301 = (rMend (i 7424) x1 x2 x3 (a 118, a 117, i 7426, i 7427) (a 133, i 7452, i 7453)).1 from (by unfold rMend; unfold rAdd; simp only [if_pos bw344, if_neg bw345, if_pos bw346]; (try unfold rPut); first | done | rfl | (simp only [q303, sMn, sMx]; done) | (simp only [q303, sMn, sMx]; rfl))), (show a340 118 = ((rMend (i 7424) x1 x2 x3 (a 118, a 117, i 7426, i 7427) (a 133, i 7452, i 7453)).2.1).1 from (by unfold rMend; unfold rAdd; simp only [if_pos bw344, if_neg bw345, if_pos bw346]; (try unfold rPut); first | done | rfl | (simp only [fa340 118 (by decide), fa338 118 (by decide), fa336 118 (by decide), fa334 118 (by decide), hL327.fa 118 rfl, q307, sMn, sMx]; done) | (simp only [fa340 118 (by decide), fa338 118 (by decide), fa336 118 (by decide), fa334 118 (by decide), hL327.fa 118 rfl, q307, sMn, sMx]; rfl))), (show a340 117 = ((rMend (i 7424) x1 x2 x3 (a 118, a 117, i 7426, i 7427) (a 133, i 7452, i 7453)).2.1).2.1 from (by unfold rMend; unfold rAdd; simp only [if_pos bw344, if_neg bw345, if_pos bw346]; (try unfold rPut); first | done | rfl | (simp only [fa340 117 (by decide), fa338 117 (by decide), fa336 117 (by decide), fa334 117 (by decide), hL327.fa 117 rfl, q308, sMn, sMx]; done) | (simp only [fa340 117 (by decide), fa338 117 (by decide), fa336 117 (by decide), fa334 117 (by decide), hL327.fa 117 rfl, q308, sMn, sMx]; rfl))), (show i327 7426 = ((rMend (i 7424) x1 x2 x3 (a 118, a 117, i 7426, i 7427) (a 133, i 7452, i 7453)).2.1).2.2.1 from (by unfold rMend; unfold rAdd; simp only [if_pos bw344, if_neg bw345, if_pos bw346]; (try unfold rPut); first | done | rfl | (simp only [(show i327 7426 = ig306 7426 from hL327.fi 7426 rfl), q309, sMn, sMx]; done) | (simp only [(show i327 7426 = ig306 7426 from hL327.fi 7426 rfl), q309, sMn, sMx]; rfl))), (show i327 7427 = ((rMend (i 7424) x1 x2 x3 (a 118, a 117, i 7426, i 7427) (a 133, i 7452, i 7453)).2.1).2.2.2 from (by unfold rMend; unfold rAdd; simp only [if_pos bw344, if_neg bw345, if_pos bw346]; (try unfold rPut); first | done | rfl | (simp only [(show i327 7427 = ig306 7427 from hL327.fi 7427 rfl), q310, sMn, sMx]; done) | (simp only [(show i327 7427 = ig306 7427 from hL327.fi 7427 rfl), q310, sMn, sMx]; rfl))), (show a340 133 = ((rMend (i 7424) x1 x2 x3 (a 118, a 117, i 7426, i 7427) (a 133, i 7452, i 7453)).2.2).1 from (by unfold rMend; unfold rAdd; simp only [if_pos bw344, if_neg bw345, if_pos bw346]; (try unfold rPut); first | done | rfl | (simp only [ea340, ea338, (show i327 7453 = ig306 7453 from hL327.fi 7453 rfl), (show ig306 7453 = i 7453 from kg306.fi 7453 rfl), ea336, q303, ea334, qs330, kg306.fa 133 rfl, sMn, sMx]; done) | (simp only [ea340, ea338, (show i327 7453 = ig306 7453 from hL327.fi 7453 rfl), (show ig306 7453 = i 7453 from kg306.fi 7453 rfl), ea336, q303, ea334, qs330, kg306.fa 133 rfl, sMn, sMx]; rfl))), (show (((i327 7453) - 1) + 1) = ((rMend (i 7424) x1 x2 x3 (a 118, a 117, i 7426, i 7427) (a 133, i 7452, i 7453)).2.2).2.1 from (by unfold rMend; unfold rAdd; simp only [if_pos bw344, if_neg bw345, if_pos bw346]; (try unfold rPut); first | done | rfl | (simp only [(show i327 7453 = ig306 7453 from hL327.fi 7453 rfl), (show ig306 7453 = i 7453 from kg306.fi 7453 rfl), sMn, sMx]; done) | (simp only [(show i327 7453 = ig306 7453 from hL327.fi 7453 rfl), (show ig306 7453 = i 7453 from kg306.fi 7453 rfl), sMn, sMx]; rfl))), (show (((i327 7453) - 1) + 1) = ((rMend (i 7424) x1 x2 x3 (a 118, a 117, i 7426, i 7427) (a 133, i 7452, i 7453)).2.2).2.2 from (by unfold rMend; unfold rAdd; simp only [if_pos bw344, if_neg bw345, if_pos bw346]; (try unfold rPut); first | done | rfl | (simp only [(show i327 7453 = ig306 7453 from hL327.fi 7453 rfl), (show ig306 7453 = i 7453 from kg306.fi 7453 rfl), sMn, sMx]; done) | (simp only [(show i327 7453 = ig306 7453 from hL327.fi 7453 rfl), (show ig306 7453 = i 7453 from kg306.fi 7453 rfl), sMn, sMx]; rfl)))⟩, (kChL_cast (kChL_set4 (kChL_cast (kShf_end O327_0 (or114 c328 p327_0.2 kor156) (hL327.I.2.1 133) (kChL_cast hE_chg (kg306.fa 133 rfl))) rfl) (hJ332.I.2.1 133) (d := ((i327 7453) - 1)) (or117 c326 efi327_7453 s331 kor40 kor1) (or145 fi327_7453.2 s331 s333 kor1) (or108 s333) (or109 s333 s335 kor1) (or110 s333 s337 kor2) (or111 s333 s339 kor3) ea334 ea336 ea338 ea340 (or231 w298)) rfl)⟩⟩)
                ·
                  have c347 : l5_327.toInt < (156 : Int32).toInt := kd_leF c; clear c
                  have s348 : (l5_327 + 4).toInt = l5_327.toInt + (4 : Int32).toInt := kd_add (or146 p327_0.1 kor4) (or147 p327_0.2 kor4)
                  refine fo_goS mi_k142 fz142_63_8_77 [.int (l5_327 + 4), .ref 133, .int l5_327, .ref 133] rfl ?_
                  refine ko_iald3 mi_k142.1 (n := 160) (c := 160) (ax := (0, 0, 0, 0, 0)) (mi_k142.2 _ _ (by rfl)) (by rfl) (ksG133 _ _ _ _) (hL327.I.2.1 133) rfl (or148 p327_0.1 s348 kor4) (or149 c347 s348 kor156 kor4) ?_
                  have r349 : ((((l5_327 + 4).toInt % 4) = 0 → (0 : Int) ≤ ((a327 133).getD (l5_327 + 4).toNatClampNeg 0).toInt ∧ ((a327 133).getD (l5_327 + 4).toNatClampNeg 0).toInt ≤ 7)) ∧ ((((l5_327 + 4).toInt % 4) = 1 → (0 : Int) ≤ ((a327 133).getD (l5_327 + 4).toNatClampNeg 0).toInt ∧ ((a327 133).getD (l5_327 + 4).toNatClampNeg 0).toInt ≤ 6)) := kE_ccond hL327.I (j := (l5_327 + 4)) (or148 p327_0.1 s348 kor4)
                  refine ko_iast3 mi_k142.1 (n := 160) (c := 160) (ax := (0, 0, 0, 0, 0)) (mi_k142.2 _ _ (by rfl)) (by rfl) (ksG133 _ _ _ _) (ksA133 _ _ _ _) (hL327.I.2.1 133) rfl (or0 p327_0.1) (or150 p327_0.2) ?_
                  intro a350 ea350 fa350
                  have hJ350 := kG_a3 hL327 133 rfl ea350 fa350 (kE_cset (or0 p327_0.1) (by have := kor4; have := kor40; have := kor156; omega) (by have := kor4; have := kor40; have := kor156; omega))
                  have s351 : (l5_327 + 1).toInt = l5_327.toInt + (1 : Int32).toInt := kd_add (or98 p327_0.1 kor1) (or151 p327_0.2 kor1)
                  first | refine fo_goL mi_k142 fz142_52_2_55 [(5, .int (l5_327 + 1)), (4, .int vg301), (0, .ref 116), (1, .int x1), (2, .int x2), (3, .int x3)] [] (by rfl) ?_ | refine fo_goL mi_k142 fz142_79_2_55 [(5, .int (l5_327 + 1)), (4, .int vg301), (0, .ref 116), (1, .int x1), (2, .int x2), (3, .int x3)] [] (by rfl) ?_
                  exact ih327 _ _ _ _ _ hJ350 (or152 c347 p327_0.1 s351 kor156 kor1) (kShf_step O327_0 (hL327.I.2.1 133) (or0 p327_0.1) (or153 c347 kor156) (or154 s348 kor4) (or155 s351 kor1) ea350 rfl) (kj_meas (or156 s351 kor1) (or157 c347 kor156) hm327)
            exact lp327 _ _ _ _ _ _ (kG_self _ hGg306.I hGg306.R) (or158 kor0) (kShf_start rfl kn0) (Nat.lt_succ_self _)
        ·
          have c352 : vg301.toInt = x3.toInt := kd_neF c; clear c
          refine fo_goS mi_k142 fz142_33_1_35 [.int vg301] rfl ?_
          have bw353 : (kTold (i 7424) x1 x2 ∧ kFit x2 x3) := ⟨(or230 w298 z2), (kFit_5 (or43 w298)).mpr (or205 z300.1 z300.2)⟩
          have bw354 : (rGet x1 x2 (a 118, a 117, i 7426, i 7427)).toInt = x3.toInt := (or160 c352 u304)
          exact ft_ret mi_k142 (by rfl) (hP vg301 _ _ _ _ hG ⟨(or159 hp0), ⟨⟨(show vg301 = (rMend (i 7424) x1 x2 x3 (a 118, a 117, i 7426, i 7427) (a 133, i 7452, i 7453)).1 from (by unfold rMend; simp only [if_pos bw353, if_pos bw354]; first | done | rfl | (simp only [q303, sMn, sMx]; done) | (simp only [q303, sMn, sMx]; rfl))), (show a 118 = ((rMend (i 7424) x1 x2 x3 (a 118, a 117, i 7426, i 7427) (a 133, i 7452, i 7453)).2.1).1 from (by unfold rMend; simp only [if_pos bw353, if_pos bw354]; first | done | rfl | (simp only [sMn, sMx]; done) | (simp only [sMn, sMx]; rfl))), (show a 117 = ((rMend (i 7424) x1 x2 x3 (a 118, a 117, i 7426, i 7427) (a 133, i 7452, i 7453)).2.1).2.1 from (by unfold rMend; simp only [if_pos bw353, if_pos bw354]; first | done | rfl | (simp only [sMn, sMx]; done) | (simp only [sMn, sMx]; rfl))), (show i 7426 = ((rMend (i 7424) x1 x2 x3 (a 118, a 117, i 7426, i 7427) (a 133, i 7452, i 7453)).2.1).2.2.1 from (by unfold rMend; simp only [if_pos bw353, if_pos bw354]; first | done | rfl | (simp only [sMn, sMx]; done) | (simp only [sMn, sMx]; rfl))), (show i 7427 = ((rMend (i 7424) x1 x2 x3 (a 118, a 117, i 7426, i 7427) (a 133, i 7452, i 7453)).2.1).2.2.2 from (by unfold rMend; simp only [if_pos bw353, if_pos bw354]; first | done | rfl | (simp only [sMn, sMx]; done) | (simp only [sMn, sMx]; rfl))), (show a 133 = ((rMend (i 7424) x1 x2 x3 (a 118, a 117, i 7426, i 7427) (a 133, i 7452, i 7453)).2.2).1 from (by unfold rMend; simp only [if_pos bw353, if_pos bw354]; first | done | rfl | (simp only [sMn, sMx]; done) | (simp only [sMn, sMx]; rfl))), (show i 7452 = ((rMend (i 7424) x1 x2 x3 (a 118, a 117, i 7426, i 7427) (a 133, i 7452, i 7453)).2.2).2.1 from (by unfold rMend; simp only [if_pos bw353, if_pos bw354]; first | done | rfl | (simp only [sMn, sMx]; done) | (simp only [sMn, sMx]; rfl))), (show i 7453 = ((rMend (i 7424) x1 x2 x3 (a 118, a 117, i 7426, i 7427) (a 133, i 7452, i 7453)).2.2).2.2 from (by unfold rMend; simp only [if_pos bw353, if_pos bw354]; first | done | rfl | (simp only [sMn, sMx]; done) | (simp only [sMn, sMx]; rfl)))⟩, (kChL_cast hE_chg rfl)⟩⟩)
      ·
        subst eg299
        have z355 : ¬ (((0 : Int) ≤ x3.toInt) ∧ (x3.toInt ≤ 1)) := hg299
        first | refine fo_goS mi_k142 fz142_6_2_18 [.int (-1)] (by rfl) ?_ | refine fo_goS mi_k142 fz142_14_2_18 [.int (-1)] (by rfl) ?_
        have bw356 : ¬ (kTold (i 7424) x1 x2 ∧ kFit x2 x3) := (fun z => absurd ((kFit_5 (or43 w298)).mp z.2) (or207 z355))
        exact ft_ret mi_k142 (by rfl) (hP (-1) _ _ _ _ hG ⟨(or159 hp0), ⟨⟨(show ((-1) : Int32) = (rMend (i 7424) x1 x2 x3 (a 118, a 117, i 7426, i 7427) (a 133, i 7452, i 7453)).1 from (by unfold rMend; simp only [if_neg bw356]; first | done | rfl | (simp only [sMn, sMx]; done) | (simp only [sMn, sMx]; rfl))), (show a 118 = ((rMend (i 7424) x1 x2 x3 (a 118, a 117, i 7426, i 7427) (a 133, i 7452, i 7453)).2.1).1 from (by unfold rMend; simp only [if_neg bw356]; first | done | rfl | (simp only [sMn, sMx]; done) | (simp only [sMn, sMx]; rfl))), (show a 117 = ((rMend (i 7424) x1 x2 x3 (a 118, a 117, i 7426, i 7427) (a 133, i 7452, i 7453)).2.1).2.1 from (by unfold rMend; simp only [if_neg bw356]; first | done | rfl | (simp only [sMn, sMx]; done) | (simp only [sMn, sMx]; rfl))), (show i 7426 = ((rMend (i 7424) x1 x2 x3 (a 118, a 117, i 7426, i 7427) (a 133, i 7452, i 7453)).2.1).2.2.1 from (by unfold rMend; simp only [if_neg bw356]; first | done | rfl | (simp only [sMn, sMx]; done) | (simp only [sMn, sMx]; rfl))), (show i 7427 = ((rMend (i 7424) x1 x2 x3 (a 118, a 117, i 7426, i 7427) (a 133, i 7452, i 7453)).2.1).2.2.2 from (by unfold rMend; simp only [if_neg bw356]; first | done | rfl | (simp only [sMn, sMx]; done) | (simp only [sMn, sMx]; rfl))), (show a 133 = ((rMend (i 7424) x1 x2 x3 (a 118, a 117, i 7426, i 7427) (a 133, i 7452, i 7453)).2.2).1 from (by unfold rMend; simp only [if_neg bw356]; first | done | rfl | (simp only [sMn, sMx]; done) | (simp only [sMn, sMx]; rfl))), (show i 7452 = ((rMend (i 7424) x1 x2 x3 (a 118, a 117, i 7426, i 7427) (a 133, i 7452, i 7453)).2.2).2.1 from (by unfold rMend; simp only [if_neg bw356]; first | done | rfl | (simp only [sMn, sMx]; done) | (simp only [sMn, sMx]; rfl))), (show i 7453 = ((rMend (i 7424) x1 x2 x3 (a 118, a 117, i 7426, i 7427) (a 133, i 7452, i 7453)).2.2).2.2 from (by unfold rMend; simp only [if_neg bw356]; first | done | rfl | (simp only [sMn, sMx]; done) | (simp only [sMn, sMx]; rfl)))⟩, (kChL_cast hE_chg rfl)⟩⟩)
    by_cases w357 : x2.toInt = 6
    ·
      refine ko_eq (x1 := (11, [(0, .ref 116), (1, .int x1), (2, .int x2), (3, .int x3)], [.int x3, .int 6], (0, 0), ks i a q r)) (by rw [(kj_eq w357 (by decide) : x2 = 6)]) ?_
      refine ko_callPI mi_k142.1 (pc := 11) (ls := [(0, .ref 116), (1, .int x1), (2, .int x2), (3, .int x3)]) (st := [.int x3, .int 6]) (h := ks i a q r) (i := (.invokestatic 144, 3, 139, 0, 9, 0, 388)) (mi_k142.2 _ _ (by rfl)) (ft_invS mi_pq139 (by rfl)) (cy := mi_c139) mi_pq139 rfl (ke139_l06 hG.I hG.R x3) (by decide) ?_
      intro vg358 hg358
      rcases hg358 with ⟨eg358, hg358⟩ | ⟨eg358, hg358⟩
      ·
        subst eg358
        have z359 : ((0 : Int) ≤ x3.toInt) ∧ (x3.toInt ≤ 99) := hg358
        refine fo_goS mi_k142 fz142_14_4_22 [.int x2, .int x1, .ref 116] rfl ?_
        refine ko_callPI mi_k142.1 (pc := 22) (ls := [(0, .ref 116), (1, .int x1), (2, .int x2), (3, .int x3)]) (st := [.int x2, .int x1, .ref 116]) (h := ks i a q r) (i := (.invokevirtual 147, 3, 140, 0, 9, 0, 389)) (mi_k142.2 _ _ (by rfl)) (ft_invS mi_pq140 (by rfl)) (cy := mi_c140) mi_pq140 rfl (ke140_116 hG.I hG.R x1 x2 (or234 w357 z2) (or235 w357)) (by decide) ?_
        intro vg360 hg360
        obtain ⟨hg360, og360⟩ := hg360
        have z361 : ((x2.toInt = 4) → (((1 : Int) ≤ vg360.toInt) ∧ (vg360.toInt ≤ 5))) := hg360
        have q362 : vg360 = rGet x1 x2 (a 118, a 117, i 7426, i 7427) := og360
        have u363 : vg360.toInt = (rGet x1 x2 (a 118, a 117, i 7426, i 7427)).toInt := congrArg Int32.toInt q362
        refine fo_goL mi_k142 fz142_25_3_30 [(4, .int vg360), (0, .ref 116), (1, .int x1), (2, .int x2), (3, .int x3)] [.int x3, .int vg360] rfl ?_
        refine ft_ifS mi_k142 (vg360 != x3) 36 33 [] (by rfl) (fun c => ?_) (fun c => ?_)
        ·
          have c364 : vg360.toInt ≠ x3.toInt := kd_ne c; clear c
          refine fo_goS mi_k142 fz142_36_4_40 [.int x3, .int x2, .int x1, .ref 116] rfl ?_
          refine ko_callN mi_k142.1 (pc := 40) (ls := [(4, .int vg360), (0, .ref 116), (1, .int x1), (2, .int x2), (3, .int x3)]) (st := [.int x3, .int x2, .int x1, .ref 116]) (h := ks i a q r) (i := (.invokevirtual 150, 3, 141, 0, 9, 0, 390)) (mi_k142.2 _ _ (by rfl)) (ft_invS mi_pq141 (by rfl)) (cy := mi_c141) mi_pq141 rfl (ke141_116 hG.I hG.R x1 x2 x3 (or234 w357 z2) (or235 w357) (or46 w357)) (by decide) ?_
          intro ig365 ag365 qg365 rg365 kg365 hg365
          have hGg365 := kG_call hG kg365 (by decide +kernel)
          obtain ⟨hg365, og365⟩ := hg365
          have q366 : ag365 118 = (rSet x1 x2 x3 (a 118, a 117, i 7426, i 7427)).1 := og365.1
          have q367 : ag365 117 = (rSet x1 x2 x3 (a 118, a 117, i 7426, i 7427)).2.1 := og365.2.1
          have q368 : ig365 7426 = (rSet x1 x2 x3 (a 118, a 117, i 7426, i 7427)).2.2.1 := og365.2.2.1
          have q369 : ig365 7427 = (rSet x1 x2 x3 (a 118, a 117, i 7426, i 7427)).2.2.2 := og365.2.2.2
          have fig365_7453 : ((0 : Int) ≤ (ig365 7453).toInt) ∧ ((ig365 7453).toInt ≤ 40) := hGg365.I.1 7453
          have efig365_7453 : (ig365 7453).toInt = (i 7453).toInt := kg365.ti 7453 rfl
          refine fo_goS mi_k142 fz142_43_3_49 [.int 40, .int (ig365 7453)] rfl ?_
          refine ft_ifS mi_k142 ((ig365 7453) != 40) 95 52 [] (by rfl) (fun c => ?_) (fun c => ?_)
          ·
            have c370 : (ig365 7453).toInt ≠ (40 : Int32).toInt := kd_ne c; clear c
            have s371 : (4 * (ig365 7453)).toInt = 4 * (ig365 7453).toInt := kd_cmul 4 kor4 (or79 fig365_7453.1) (or80 fig365_7453.2)
            refine fo_goS mi_k142 fz142_95_7_106 [.int x1, .int (4 * (ig365 7453)), .ref 133] rfl ?_
            refine ko_iast3 mi_k142.1 (n := 160) (c := 160) (ax := (0, 0, 0, 0, 0)) (mi_k142.2 _ _ (by rfl)) (by rfl) (ksG133 _ _ _ _) (ksA133 _ _ _ _) (hGg365.I.2.1 133) rfl (or81 fig365_7453.1 s371) (or82 c370 fig365_7453.2 s371 kor40) ?_
            intro a372 ea372 fa372
            have hJ372 := kG_a3 hGg365 133 rfl ea372 fa372 (kE_cset (or81 fig365_7453.1 s371) (or236 w357 z2) (or237 w357 z2))
            have s373 : ((4 * (ig365 7453)) + 1).toInt = (4 * (ig365 7453)).toInt + (1 : Int32).toInt := kd_add (or84 fig365_7453.1 s371 kor1) (or85 fig365_7453.2 s371 kor1)
            refine fo_goS mi_k142 fz142_107_9_120 [.int x2, .int ((4 * (ig365 7453)) + 1), .ref 133] rfl ?_
            refine ko_iast3 mi_k142.1 (n := 160) (c := 160) (ax := (0, 0, 0, 0, 0)) (mi_k142.2 _ _ (by rfl)) (by rfl) (ksG133 _ _ _ _) (ksA133 _ _ _ _) (hJ372.I.2.1 133) rfl (or86 fig365_7453.1 s371 s373 kor1) (or87 c370 fig365_7453.2 s371 s373 kor40 kor1) ?_
            intro a374 ea374 fa374
            have hJ374 := kG_a3 hJ372 133 rfl ea374 fa374 (kE_cset (or86 fig365_7453.1 s371 s373 kor1) (or238 w357) (or239 w357))
            have s375 : ((4 * (ig365 7453)) + 2).toInt = (4 * (ig365 7453)).toInt + (2 : Int32).toInt := kd_add (or90 fig365_7453.1 s371 kor2) (or91 fig365_7453.2 s371 kor2)
            refine fo_goS mi_k142 fz142_121_9_135 [.int vg360, .int ((4 * (ig365 7453)) + 2), .ref 133] rfl ?_
            refine ko_iast3 mi_k142.1 (n := 160) (c := 160) (ax := (0, 0, 0, 0, 0)) (mi_k142.2 _ _ (by rfl)) (by rfl) (ksG133 _ _ _ _) (ksA133 _ _ _ _) (hJ374.I.2.1 133) rfl (or92 fig365_7453.1 s371 s375 kor2) (or93 c370 fig365_7453.2 s371 s375 kor40 kor2) ?_
            intro a376 ea376 fa376
            have hJ376 := kG_a3 hJ374 133 rfl ea376 fa376 (kE_cset (or92 fig365_7453.1 s371 s375 kor2) (by have := kor1; have := kor2; have := kor40; omega) (by have := kor1; have := kor2; have := kor40; omega))
            have s377 : ((4 * (ig365 7453)) + 3).toInt = (4 * (ig365 7453)).toInt + (3 : Int32).toInt := kd_add (or94 fig365_7453.1 s371 kor3) (or95 fig365_7453.2 s371 kor3)
            refine fo_goS mi_k142 fz142_136_9_149 [.int x3, .int ((4 * (ig365 7453)) + 3), .ref 133] rfl ?_
            refine ko_iast3 mi_k142.1 (n := 160) (c := 160) (ax := (0, 0, 0, 0, 0)) (mi_k142.2 _ _ (by rfl)) (by rfl) (ksG133 _ _ _ _) (ksA133 _ _ _ _) (hJ376.I.2.1 133) rfl (or96 fig365_7453.1 s371 s377 kor3) (or97 c370 fig365_7453.2 s371 s377 kor40 kor3) ?_
            intro a378 ea378 fa378
            have hJ378 := kG_a3 hJ376 133 rfl ea378 fa378 (kE_cset (or96 fig365_7453.1 s371 s377 kor3) (by have := kor1; have := kor2; have := kor3; have := kor40; omega) (by have := kor1; have := kor2; have := kor3; have := kor40; omega))
            have s379 : ((ig365 7453) + 1).toInt = (ig365 7453).toInt + (1 : Int32).toInt := kd_add (or98 fig365_7453.1 kor1) (or99 fig365_7453.2 kor1)
            have hJ380 := kG_i hJ378 7453 rfl (v := ((ig365 7453) + 1)) ⟨(or100 fig365_7453.1 s379 kor1), (or101 c370 fig365_7453.2 s371 s379 kor40 kor1)⟩
            have hJ381 := kG_i hJ380 7452 rfl (v := ((ig365 7453) + 1)) ⟨(or100 fig365_7453.1 s379 kor1), (or101 c370 fig365_7453.2 s371 s379 kor40 kor1)⟩
            first | refine fo_goI mi_k142 fz142_150_11_170 [.int vg360] (ku (ku ig365 7453 ((ig365 7453) + 1)) 7452 ((ig365 7453) + 1)) (by rfl) ?_ | refine ft_go mi_k142 11 170 [(4, .int vg360), (0, .ref 116), (1, .int x1), (2, .int x2), (3, .int x3)] [.int vg360] (ku (ku ig365 7453 ((ig365 7453) + 1)) 7452 ((ig365 7453) + 1)) a378 qg365 rg365 (by rfl) ?_
            have bw382 : (kTold (i 7424) x1 x2 ∧ kFit x2 x3) := ⟨(or240 w357 z2), (kFit_6 (or241 w357)).mpr (or242 z359.1 z359.2)⟩
            have bw383 : ¬ ((rGet x1 x2 (a 118, a 117, i 7426, i 7427)).toInt = x3.toInt) := (or106 c364 u363)
            have bw384 : ¬ ((i 7453).toInt = 40) := (or107 c370 efig365_7453 fig365_7453.2 s371 kor40)
            exact ft_ret mi_k142 (by rfl) (hP vg360 _ _ _ _ hJ381 ⟨or102, ⟨⟨(show vg360 = (rMend (i 7424) x1 x2 x3 (a 118, a 117, i 7426, i 7427) (a 133, i 7452, i 7453)).1 from (by unfold rMend; unfold rAdd; simp only [if_pos bw382, if_neg bw383, if_neg bw384]; (try unfold rPut); first | done | rfl | (simp only [q362, sMn, sMx]; done) | (simp only [q362, sMn, sMx]; rfl))), (show a378 118 = ((rMend (i 7424) x1 x2 x3 (a 118, a 117, i 7426, i 7427) (a 133, i 7452, i 7453)).2.1).1 from (by unfold rMend; unfold rAdd; simp only [if_pos bw382, if_neg bw383, if_neg bw384]; (try unfold rPut); first | done | rfl | (simp only [fa378 118 (by decide), fa376 118 (by decide), fa374 118 (by decide), fa372 118 (by decide), q366, sMn, sMx]; done) | (simp only [fa378 118 (by decide), fa376 118 (by decide), fa374 118 (by decide), fa372 118 (by decide), q366, sMn, sMx]; rfl))), (show a378 117 = ((rMend (i 7424) x1 x2 x3 (a 118, a 117, i 7426, i 7427) (a 133, i 7452, i 7453)).2.1).2.1 from (by unfold rMend; unfold rAdd; simp only [if_pos bw382, if_neg bw383, if_neg bw384]; (try unfold rPut); first | done | rfl | (simp only [fa378 117 (by decide), fa376 117 (by decide), fa374 117 (by decide), fa372 117 (by decide), q367, sMn, sMx]; done) | (simp only [fa378 117 (by decide), fa376 117 (by decide), fa374 117 (by decide), fa372 117 (by decide), q367, sMn, sMx]; rfl))), (show ig365 7426 = ((rMend (i 7424) x1 x2 x3 (a 118, a 117, i 7426, i 7427) (a 133, i 7452, i 7453)).2.1).2.2.1 from (by unfold rMend; unfold rAdd; simp only [if_pos bw382, if_neg bw383, if_neg bw384]; (try unfold rPut); first | done | rfl | (simp only [q368, sMn, sMx]; done) | (simp only [q368, sMn, sMx]; rfl))), (show ig365 7427 = ((rMend (i 7424) x1 x2 x3 (a 118, a 117, i 7426, i 7427) (a 133, i 7452, i 7453)).2.1).2.2.2 from (by unfold rMend; unfold rAdd; simp only [if_pos bw382, if_neg bw383, if_neg bw384]; (try unfold rPut); first | done | rfl | (simp only [q369, sMn, sMx]; done) | (simp only [q369, sMn, sMx]; rfl))), (show a378 133 = ((rMend (i 7424) x1 x2 x3 (a 118, a 117, i 7426, i 7427) (a 133, i 7452, i 7453)).2.2).1 from (by unfold rMend; unfold rAdd; simp only [if_pos bw382, if_neg bw383, if_neg bw384]; (try unfold rPut); first | done | rfl | (simp only [ea378, ea376, (show ig365 7453 = i 7453 from kg365.fi 7453 rfl), ea374, q362, ea372, kg365.fa 133 rfl, sMn, sMx]; done) | (simp only [ea378, ea376, (show ig365 7453 = i 7453 from kg365.fi 7453 rfl), ea374, q362, ea372, kg365.fa 133 rfl, sMn, sMx]; rfl))), (show ((ig365 7453) + 1) = ((rMend (i 7424) x1 x2 x3 (a 118, a 117, i 7426, i 7427) (a 133, i 7452, i 7453)).2.2).2.1 from (by unfold rMend; unfold rAdd; simp only [if_pos bw382, if_neg bw383, if_neg bw384]; (try unfold rPut); first | done | rfl | (simp only [(show ig365 7453 = i 7453 from kg365.fi 7453 rfl), sMn, sMx]; done) | (simp only [(show ig365 7453 = i 7453 from kg365.fi 7453 rfl), sMn, sMx]; rfl))), (show ((ig365 7453) + 1) = ((rMend (i 7424) x1 x2 x3 (a 118, a 117, i 7426, i 7427) (a 133, i 7452, i 7453)).2.2).2.2 from (by unfold rMend; unfold rAdd; simp only [if_pos bw382, if_neg bw383, if_neg bw384]; (try unfold rPut); first | done | rfl | (simp only [(show ig365 7453 = i 7453 from kg365.fi 7453 rfl), sMn, sMx]; done) | (simp only [(show ig365 7453 = i 7453 from kg365.fi 7453 rfl), sMn, sMx]; rfl)))⟩, (kChL_cast (kChL_set4 (kChL_cast hE_chg (kg365.fa 133 rfl)) (hGg365.I.2.1 133) (d := (ig365 7453)) (or0 fig365_7453.1) (or113 c370 fig365_7453.2 s371 kor40) (or108 s371) (or109 s371 s373 kor1) (or110 s371 s375 kor2) (or111 s371 s377 kor3) ea372 ea374 ea376 ea378 (or243 w357)) rfl)⟩⟩)
          ·
            have c385 : (ig365 7453).toInt = (40 : Int32).toInt := kd_neF c; clear c
            first | refine fo_goL mi_k142 fz142_52_2_55 [(5, .int 0), (4, .int vg360), (0, .ref 116), (1, .int x1), (2, .int x2), (3, .int x3)] [] (by rfl) ?_ | refine fo_goL mi_k142 fz142_79_2_55 [(5, .int 0), (4, .int vg360), (0, .ref 116), (1, .int x1), (2, .int x2), (3, .int x3)] [] (by rfl) ?_
            have lp386 : ∀ (nz : Nat) (i386 : Nat → Int32) (a386 : Nat → List Int32) (q386 : Nat → List Int64) (r386 : Nat → Nat) (l5_386 : Int32), kG yw142_116_L55 ig365 ag365 qg365 rg365 i386 a386 q386 r386 → ((0 : Int) ≤ l5_386.toInt) ∧ (l5_386.toInt ≤ 156) → kShf (ag365 133) (a386 133) l5_386.toInt.toNat → ((156 - l5_386.toInt)).toNat < nz → ko 7 (mi_h142, mi_c142) P (55, [(5, .int l5_386), (4, .int vg360), (0, .ref 116), (1, .int x1), (2, .int x2), (3, .int x3)], [], (0, 0), ks i386 a386 q386 r386) := by
              intro nz
              induction nz with
              | zero =>
                intro _ _ _ _ _ _ _ _ hm
                exact absurd hm (Nat.not_lt_zero _)
              | succ nz ih386 =>
                intro i386 a386 q386 r386 l5_386 hL386 p386_0 O386_0 hm386
                refine fo_goL mi_k142 fz142_55_2_60 [(5, .int l5_386), (4, .int vg360), (0, .ref 116), (1, .int x1), (2, .int x2), (3, .int x3)] [.int 156, .int l5_386] rfl ?_
                refine ft_ifS mi_k142 (decide (156 ≤ l5_386)) 85 63 [] (by rfl) (fun c => ?_) (fun c => ?_)
                ·
                  have c387 : (156 : Int32).toInt ≤ l5_386.toInt := kd_le c; clear c
                  have hG388 := kG_call hGg365 hL386 (by decide +kernel)
                  have qs389 : a386 133 = rShf (ag365 133) := kShf_eq O386_0 (or114 c387 p386_0.2 kor156) (hGg365.I.2.1 133) (hG388.I.2.1 133)
                  have fi386_7453 : ((0 : Int) ≤ (i386 7453).toInt) ∧ ((i386 7453).toInt ≤ 40) := hG388.I.1 7453
                  have efi386_7453 : (i386 7453).toInt = (ig365 7453).toInt := hL386.ti 7453 rfl
                  have s390 : ((i386 7453) - 1).toInt = (i386 7453).toInt - (1 : Int32).toInt := kd_sub (or115 c385 efi386_7453 kor40 kor1) (or116 fi386_7453.2 kor1)
                  have hJ391 := kG_i hG388 7453 rfl (v := ((i386 7453) - 1)) ⟨(or117 c385 efi386_7453 s390 kor40 kor1), (or118 fi386_7453.2 s390 kor1)⟩
                  have s392 : (4 * ((i386 7453) - 1)).toInt = 4 * ((i386 7453) - 1).toInt := kd_cmul 4 kor4 (or119 fi386_7453.1 s390 kor1) (or120 fi386_7453.2 s390 kor1)
                  first | refine fo_goI mi_k142 fz142_85_13_106 [.int x1, .int (4 * ((i386 7453) - 1)), .ref 133] (ku i386 7453 ((i386 7453) - 1)) (by rfl) ?_ | refine ft_goS mi_k142 13 106 [.int x1, .int (4 * ((i386 7453) - 1)), .ref 133] (by rfl) ?_ | refine ft_go mi_k142 13 106 [(5, .int l5_386), (4, .int vg360), (0, .ref 116), (1, .int x1), (2, .int x2), (3, .int x3)] [.int x1, .int (4 * ((i386 7453) - 1)), .ref 133] (ku i386 7453 ((i386 7453) - 1)) a386 q386 r386 (by rfl) ?_
                  refine ko_iast3 mi_k142.1 (n := 160) (c := 160) (ax := (0, 0, 0, 0, 0)) (mi_k142.2 _ _ (by rfl)) (by rfl) (ksG133 _ _ _ _) (ksA133 _ _ _ _) (hJ391.I.2.1 133) rfl (or121 c385 efi386_7453 s390 s392 kor40 kor1) (or122 fi386_7453.2 s390 s392 kor1) ?_
                  intro a393 ea393 fa393
                  have hJ393 := kG_a3 hJ391 133 rfl ea393 fa393 (kE_cset (or121 c385 efi386_7453 s390 s392 kor40 kor1) (or236 w357 z2) (or237 w357 z2))
                  have s394 : ((4 * ((i386 7453) - 1)) + 1).toInt = (4 * ((i386 7453) - 1)).toInt + (1 : Int32).toInt := kd_add (or123 c385 efi386_7453 s390 s392 kor40 kor1) (or124 fi386_7453.2 s390 s392 kor1)
                  refine fo_goS mi_k142 fz142_107_9_120 [.int x2, .int ((4 * ((i386 7453) - 1)) + 1), .ref 133] rfl ?_
                  refine ko_iast3 mi_k142.1 (n := 160) (c := 160) (ax := (0, 0, 0, 0, 0)) (mi_k142.2 _ _ (by rfl)) (by rfl) (ksG133 _ _ _ _) (ksA133 _ _ _ _) (hJ393.I.2.1 133) rfl (or125 c385 efi386_7453 s390 s392 s394 kor40 kor1) (or126 fi386_7453.2 s390 s392 s394 kor1) ?_
                  intro a395 ea395 fa395
                  have hJ395 := kG_a3 hJ393 133 rfl ea395 fa395 (kE_cset (or125 c385 efi386_7453 s390 s392 s394 kor40 kor1) (or127 c385 efi386_7453 fi386_7453.2 s390 s392 s394 kor40 kor1) (or239 w357))
                  have s396 : ((4 * ((i386 7453) - 1)) + 2).toInt = (4 * ((i386 7453) - 1)).toInt + (2 : Int32).toInt := kd_add (or128 c385 efi386_7453 s390 s392 kor40 kor1 kor2) (or129 fi386_7453.2 s390 s392 kor1 kor2)
                  refine fo_goS mi_k142 fz142_121_9_135 [.int vg360, .int ((4 * ((i386 7453) - 1)) + 2), .ref 133] rfl ?_
                  refine ko_iast3 mi_k142.1 (n := 160) (c := 160) (ax := (0, 0, 0, 0, 0)) (mi_k142.2 _ _ (by rfl)) (by rfl) (ksG133 _ _ _ _) (ksA133 _ _ _ _) (hJ395.I.2.1 133) rfl (or130 c385 efi386_7453 s390 s392 s396 kor40 kor1 kor2) (or131 fi386_7453.2 s390 s392 s396 kor1 kor2) ?_
                  intro a397 ea397 fa397
                  have hJ397 := kG_a3 hJ395 133 rfl ea397 fa397 (kE_cset (or130 c385 efi386_7453 s390 s392 s396 kor40 kor1 kor2) (or132 c385 efi386_7453 fi386_7453.2 s390 s392 s396 kor40 kor1 kor2) (or133 c385 efi386_7453 fi386_7453.2 s390 s392 s396 kor40 kor1 kor2))
                  have s398 : ((4 * ((i386 7453) - 1)) + 3).toInt = (4 * ((i386 7453) - 1)).toInt + (3 : Int32).toInt := kd_add (or134 c385 efi386_7453 s390 s392 kor40 kor1 kor3) (or135 fi386_7453.2 s390 s392 kor1 kor3)
                  refine fo_goS mi_k142 fz142_136_9_149 [.int x3, .int ((4 * ((i386 7453) - 1)) + 3), .ref 133] rfl ?_
                  refine ko_iast3 mi_k142.1 (n := 160) (c := 160) (ax := (0, 0, 0, 0, 0)) (mi_k142.2 _ _ (by rfl)) (by rfl) (ksG133 _ _ _ _) (ksA133 _ _ _ _) (hJ397.I.2.1 133) rfl (or136 c385 efi386_7453 s390 s392 s398 kor40 kor1 kor3) (or137 fi386_7453.2 s390 s392 s398 kor1 kor3) ?_
                  intro a399 ea399 fa399
                  have hJ399 := kG_a3 hJ397 133 rfl ea399 fa399 (kE_cset (or136 c385 efi386_7453 s390 s392 s398 kor40 kor1 kor3) (or138 c385 efi386_7453 fi386_7453.2 s390 s392 s398 kor40 kor1 kor3) (or139 c385 efi386_7453 fi386_7453.2 s390 s392 s398 kor40 kor1 kor3))
                  have s400 : (((i386 7453) - 1) + 1).toInt = ((i386 7453) - 1).toInt + (1 : Int32).toInt := kd_add (or140 fi386_7453.1 s390 kor1) (or141 fi386_7453.2 s390 s392 kor1)
                  have hJ401 := kG_i hJ399 7453 rfl (v := (((i386 7453) - 1) + 1)) ⟨(or142 fi386_7453.1 s390 s400 kor1), (or143 fi386_7453.2 s390 s392 s400 kor1)⟩
                  have hJ402 := kG_i hJ401 7452 rfl (v := (((i386 7453) - 1) + 1)) ⟨(or142 fi386_7453.1 s390 s400 kor1), (or143 fi386_7453.2 s390 s392 s400 kor1)⟩
                  first | refine fo_goI mi_k142 fz142_150_11_170 [.int vg360] (ku (ku (ku i386 7453 ((i386 7453) - 1)) 7453 (((i386 7453) - 1) + 1)) 7452 (((i386 7453) - 1) + 1)) (by rfl) ?_ | refine ft_go mi_k142 11 170 [(5, .int l5_386), (4, .int vg360), (0, .ref 116), (1, .int x1), (2, .int x2), (3, .int x3)] [.int vg360] (ku (ku (ku i386 7453 ((i386 7453) - 1)) 7453 (((i386 7453) - 1) + 1)) 7452 (((i386 7453) - 1) + 1)) a399 q386 r386 (by rfl) ?_
                  have bw403 : (kTold (i 7424) x1 x2 ∧ kFit x2 x3) := ⟨(or240 w357 z2), (kFit_6 (or241 w357)).mpr (or242 z359.1 z359.2)⟩
                  have bw404 : ¬ ((rGet x1 x2 (a 118, a 117, i 7426, i 7427)).toInt = x3.toInt) := (or106 c364 u363)
                  have bw405 : (i 7453).toInt = 40 := (or144 c385 efig365_7453 fi_7453.2 kor40)
                  exact ft_ret mi_k142 (by rfl) (hP vg360 _ _ _ _ hJ402 ⟨or102, ⟨⟨(show vg360 = (rMend (i 7424) x1 x2 x3 (a 118, a 117, i 7426, i 7427) (a 133, i 7452, i 7453)).1 from (by unfold rMend; unfold rAdd; simp only [if_pos bw403, if_neg bw404, if_pos bw405]; (try unfold rPut); first | done | rfl | (simp only [q362, sMn, sMx]; done) | (simp only [q362, sMn, sMx]; rfl))), (show a399 118 = ((rMend (i 7424) x1 x2 x3 (a 118, a 117, i 7426, i 7427) (a 133, i 7452, i 7453)).2.1).1 from (by unfold rMend; unfold rAdd; simp only [if_pos bw403, if_neg bw404, if_pos bw405]; (try unfold rPut); first | done | rfl | (simp only [fa399 118 (by decide), fa397 118 (by decide), fa395 118 (by decide), fa393 118 (by decide), hL386.fa 118 rfl, q366, sMn, sMx]; done) | (simp only [fa399 118 (by decide), fa397 118 (by decide), fa395 118 (by decide), fa393 118 (by decide), hL386.fa 118 rfl, q366, sMn, sMx]; rfl))), (show a399 117 = ((rMend (i 7424) x1 x2 x3 (a 118, a 117, i 7426, i 7427) (a 133, i 7452, i 7453)).2.1).2.1 from (by unfold rMend; unfold rAdd; simp only [if_pos bw403, if_neg bw404, if_pos bw405]; (try unfold rPut); first | done | rfl | (simp only [fa399 117 (by decide), fa397 117 (by decide), fa395 117 (by decide), fa393 117 (by decide), hL386.fa 117 rfl, q367, sMn, sMx]; done) | (simp only [fa399 117 (by decide), fa397 117 (by decide), fa395 117 (by decide), fa393 117 (by decide), hL386.fa 117 rfl, q367, sMn, sMx]; rfl))), (show i386 7426 = ((rMend (i 7424) x1 x2 x3 (a 118, a 117, i 7426, i 7427) (a 133, i 7452, i 7453)).2.1).2.2.1 from (by unfold rMend; unfold rAdd; simp only [if_pos bw403, if_neg bw404, if_pos bw405]; (try unfold rPut); first | done | rfl | (simp only [(show i386 7426 = ig365 7426 from hL386.fi 7426 rfl), q368, sMn, sMx]; done) | (simp only [(show i386 7426 = ig365 7426 from hL386.fi 7426 rfl), q368, sMn, sMx]; rfl))), (show i386 7427 = ((rMend (i 7424) x1 x2 x3 (a 118, a 117, i 7426, i 7427) (a 133, i 7452, i 7453)).2.1).2.2.2 from (by unfold rMend; unfold rAdd; simp only [if_pos bw403, if_neg bw404, if_pos bw405]; (try unfold rPut); first | done | rfl | (simp only [(show i386 7427 = ig365 7427 from hL386.fi 7427 rfl), q369, sMn, sMx]; done) | (simp only [(show i386 7427 = ig365 7427 from hL386.fi 7427 rfl), q369, sMn, sMx]; rfl))), (show a399 133 = ((rMend (i 7424) x1 x2 x3 (a 118, a 117, i 7426, i 7427) (a 133, i 7452, i 7453)).2.2).1 from (by unfold rMend; unfold rAdd; simp only [if_pos bw403, if_neg bw404, if_pos bw405]; (try unfold rPut); first | done | rfl | (simp only [ea399, ea397, (show i386 7453 = ig365 7453 from hL386.fi 7453 rfl), (show ig365 7453 = i 7453 from kg365.fi 7453 rfl), ea395, q362, ea393, qs389, kg365.fa 133 rfl, sMn, sMx]; done) | (simp only [ea399, ea397, (show i386 7453 = ig365 7453 from hL386.fi 7453 rfl), (show ig365 7453 = i 7453 from kg365.fi 7453 rfl), ea395, q362, ea393, qs389, kg365.fa 133 rfl, sMn, sMx]; rfl))), (show (((i386 7453) - 1) + 1) = ((rMend (i 7424) x1 x2 x3 (a 118, a 117, i 7426, i 7427) (a 133, i 7452, i 7453)).2.2).2.1 from (by unfold rMend; unfold rAdd; simp only [if_pos bw403, if_neg bw404, if_pos bw405]; (try unfold rPut); first | done | rfl | (simp only [(show i386 7453 = ig365 7453 from hL386.fi 7453 rfl), (show ig365 7453 = i 7453 from kg365.fi 7453 rfl), sMn, sMx]; done) | (simp only [(show i386 7453 = ig365 7453 from hL386.fi 7453 rfl), (show ig365 7453 = i 7453 from kg365.fi 7453 rfl), sMn, sMx]; rfl))), (show (((i386 7453) - 1) + 1) = ((rMend (i 7424) x1 x2 x3 (a 118, a 117, i 7426, i 7427) (a 133, i 7452, i 7453)).2.2).2.2 from (by unfold rMend; unfold rAdd; simp only [if_pos bw403, if_neg bw404, if_pos bw405]; (try unfold rPut); first | done | rfl | (simp only [(show i386 7453 = ig365 7453 from hL386.fi 7453 rfl), (show ig365 7453 = i 7453 from kg365.fi 7453 rfl), sMn, sMx]; done) | (simp only [(show i386 7453 = ig365 7453 from hL386.fi 7453 rfl), (show ig365 7453 = i 7453 from kg365.fi 7453 rfl), sMn, sMx]; rfl)))⟩, (kChL_cast (kChL_set4 (kChL_cast (kShf_end O386_0 (or114 c387 p386_0.2 kor156) (hL386.I.2.1 133) (kChL_cast hE_chg (kg365.fa 133 rfl))) rfl) (hJ391.I.2.1 133) (d := ((i386 7453) - 1)) (or117 c385 efi386_7453 s390 kor40 kor1) (or145 fi386_7453.2 s390 s392 kor1) (or108 s392) (or109 s392 s394 kor1) (or110 s392 s396 kor2) (or111 s392 s398 kor3) ea393 ea395 ea397 ea399 (or243 w357)) rfl)⟩⟩)
                ·
                  have c406 : l5_386.toInt < (156 : Int32).toInt := kd_leF c; clear c
                  have s407 : (l5_386 + 4).toInt = l5_386.toInt + (4 : Int32).toInt := kd_add (or146 p386_0.1 kor4) (or147 p386_0.2 kor4)
                  refine fo_goS mi_k142 fz142_63_8_77 [.int (l5_386 + 4), .ref 133, .int l5_386, .ref 133] rfl ?_
                  refine ko_iald3 mi_k142.1 (n := 160) (c := 160) (ax := (0, 0, 0, 0, 0)) (mi_k142.2 _ _ (by rfl)) (by rfl) (ksG133 _ _ _ _) (hL386.I.2.1 133) rfl (or148 p386_0.1 s407 kor4) (or149 c406 s407 kor156 kor4) ?_
                  have r408 : ((((l5_386 + 4).toInt % 4) = 0 → (0 : Int) ≤ ((a386 133).getD (l5_386 + 4).toNatClampNeg 0).toInt ∧ ((a386 133).getD (l5_386 + 4).toNatClampNeg 0).toInt ≤ 7)) ∧ ((((l5_386 + 4).toInt % 4) = 1 → (0 : Int) ≤ ((a386 133).getD (l5_386 + 4).toNatClampNeg 0).toInt ∧ ((a386 133).getD (l5_386 + 4).toNatClampNeg 0).toInt ≤ 6)) := kE_ccond hL386.I (j := (l5_386 + 4)) (or148 p386_0.1 s407 kor4)
                  refine ko_iast3 mi_k142.1 (n := 160) (c := 160) (ax := (0, 0, 0, 0, 0)) (mi_k142.2 _ _ (by rfl)) (by rfl) (ksG133 _ _ _ _) (ksA133 _ _ _ _) (hL386.I.2.1 133) rfl (or0 p386_0.1) (or150 p386_0.2) ?_
                  intro a409 ea409 fa409
                  have hJ409 := kG_a3 hL386 133 rfl ea409 fa409 (kE_cset (or0 p386_0.1) (by have := kor4; have := kor40; have := kor156; omega) (by have := kor4; have := kor40; have := kor156; omega))
                  have s410 : (l5_386 + 1).toInt = l5_386.toInt + (1 : Int32).toInt := kd_add (or98 p386_0.1 kor1) (or151 p386_0.2 kor1)
                  first | refine fo_goL mi_k142 fz142_52_2_55 [(5, .int (l5_386 + 1)), (4, .int vg360), (0, .ref 116), (1, .int x1), (2, .int x2), (3, .int x3)] [] (by rfl) ?_ | refine fo_goL mi_k142 fz142_79_2_55 [(5, .int (l5_386 + 1)), (4, .int vg360), (0, .ref 116), (1, .int x1), (2, .int x2), (3, .int x3)] [] (by rfl) ?_
                  exact ih386 _ _ _ _ _ hJ409 (or152 c406 p386_0.1 s410 kor156 kor1) (kShf_step O386_0 (hL386.I.2.1 133) (or0 p386_0.1) (or153 c406 kor156) (or154 s407 kor4) (or155 s410 kor1) ea409 rfl) (kj_meas (or156 s410 kor1) (or157 c406 kor156) hm386)
            exact lp386 _ _ _ _ _ _ (kG_self _ hGg365.I hGg365.R) (or158 kor0) (kShf_start rfl kn0) (Nat.lt_succ_self _)
        ·
          have c411 : vg360.toInt = x3.toInt := kd_neF c; clear c
          refine fo_goS mi_k142 fz142_33_1_35 [.int vg360] rfl ?_
          have bw412 : (kTold (i 7424) x1 x2 ∧ kFit x2 x3) := ⟨(or240 w357 z2), (kFit_6 (or241 w357)).mpr (or242 z359.1 z359.2)⟩
          have bw413 : (rGet x1 x2 (a 118, a 117, i 7426, i 7427)).toInt = x3.toInt := (or160 c411 u363)
          exact ft_ret mi_k142 (by rfl) (hP vg360 _ _ _ _ hG ⟨(or159 hp0), ⟨⟨(show vg360 = (rMend (i 7424) x1 x2 x3 (a 118, a 117, i 7426, i 7427) (a 133, i 7452, i 7453)).1 from (by unfold rMend; simp only [if_pos bw412, if_pos bw413]; first | done | rfl | (simp only [q362, sMn, sMx]; done) | (simp only [q362, sMn, sMx]; rfl))), (show a 118 = ((rMend (i 7424) x1 x2 x3 (a 118, a 117, i 7426, i 7427) (a 133, i 7452, i 7453)).2.1).1 from (by unfold rMend; simp only [if_pos bw412, if_pos bw413]; first | done | rfl | (simp only [sMn, sMx]; done) | (simp only [sMn, sMx]; rfl))), (show a 117 = ((rMend (i 7424) x1 x2 x3 (a 118, a 117, i 7426, i 7427) (a 133, i 7452, i 7453)).2.1).2.1 from (by unfold rMend; simp only [if_pos bw412, if_pos bw413]; first | done | rfl | (simp only [sMn, sMx]; done) | (simp only [sMn, sMx]; rfl))), (show i 7426 = ((rMend (i 7424) x1 x2 x3 (a 118, a 117, i 7426, i 7427) (a 133, i 7452, i 7453)).2.1).2.2.1 from (by unfold rMend; simp only [if_pos bw412, if_pos bw413]; first | done | rfl | (simp only [sMn, sMx]; done) | (simp only [sMn, sMx]; rfl))), (show i 7427 = ((rMend (i 7424) x1 x2 x3 (a 118, a 117, i 7426, i 7427) (a 133, i 7452, i 7453)).2.1).2.2.2 from (by unfold rMend; simp only [if_pos bw412, if_pos bw413]; first | done | rfl | (simp only [sMn, sMx]; done) | (simp only [sMn, sMx]; rfl))), (show a 133 = ((rMend (i 7424) x1 x2 x3 (a 118, a 117, i 7426, i 7427) (a 133, i 7452, i 7453)).2.2).1 from (by unfold rMend; simp only [if_pos bw412, if_pos bw413]; first | done | rfl | (simp only [sMn, sMx]; done) | (simp only [sMn, sMx]; rfl))), (show i 7452 = ((rMend (i 7424) x1 x2 x3 (a 118, a 117, i 7426, i 7427) (a 133, i 7452, i 7453)).2.2).2.1 from (by unfold rMend; simp only [if_pos bw412, if_pos bw413]; first | done | rfl | (simp only [sMn, sMx]; done) | (simp only [sMn, sMx]; rfl))), (show i 7453 = ((rMend (i 7424) x1 x2 x3 (a 118, a 117, i 7426, i 7427) (a 133, i 7452, i 7453)).2.2).2.2 from (by unfold rMend; simp only [if_pos bw412, if_pos bw413]; first | done | rfl | (simp only [sMn, sMx]; done) | (simp only [sMn, sMx]; rfl)))⟩, (kChL_cast hE_chg rfl)⟩⟩)
      ·
        subst eg358
        have z414 : ¬ (((0 : Int) ≤ x3.toInt) ∧ (x3.toInt ≤ 99)) := hg358
        first | refine fo_goS mi_k142 fz142_6_2_18 [.int (-1)] (by rfl) ?_ | refine fo_goS mi_k142 fz142_14_2_18 [.int (-1)] (by rfl) ?_
        have bw415 : ¬ (kTold (i 7424) x1 x2 ∧ kFit x2 x3) := (fun z => absurd ((kFit_6 (or241 w357)).mp z.2) (or244 z414))
        exact ft_ret mi_k142 (by rfl) (hP (-1) _ _ _ _ hG ⟨(or159 hp0), ⟨⟨(show ((-1) : Int32) = (rMend (i 7424) x1 x2 x3 (a 118, a 117, i 7426, i 7427) (a 133, i 7452, i 7453)).1 from (by unfold rMend; simp only [if_neg bw415]; first | done | rfl | (simp only [sMn, sMx]; done) | (simp only [sMn, sMx]; rfl))), (show a 118 = ((rMend (i 7424) x1 x2 x3 (a 118, a 117, i 7426, i 7427) (a 133, i 7452, i 7453)).2.1).1 from (by unfold rMend; simp only [if_neg bw415]; first | done | rfl | (simp only [sMn, sMx]; done) | (simp only [sMn, sMx]; rfl))), (show a 117 = ((rMend (i 7424) x1 x2 x3 (a 118, a 117, i 7426, i 7427) (a 133, i 7452, i 7453)).2.1).2.1 from (by unfold rMend; simp only [if_neg bw415]; first | done | rfl | (simp only [sMn, sMx]; done) | (simp only [sMn, sMx]; rfl))), (show i 7426 = ((rMend (i 7424) x1 x2 x3 (a 118, a 117, i 7426, i 7427) (a 133, i 7452, i 7453)).2.1).2.2.1 from (by unfold rMend; simp only [if_neg bw415]; first | done | rfl | (simp only [sMn, sMx]; done) | (simp only [sMn, sMx]; rfl))), (show i 7427 = ((rMend (i 7424) x1 x2 x3 (a 118, a 117, i 7426, i 7427) (a 133, i 7452, i 7453)).2.1).2.2.2 from (by unfold rMend; simp only [if_neg bw415]; first | done | rfl | (simp only [sMn, sMx]; done) | (simp only [sMn, sMx]; rfl))), (show a 133 = ((rMend (i 7424) x1 x2 x3 (a 118, a 117, i 7426, i 7427) (a 133, i 7452, i 7453)).2.2).1 from (by unfold rMend; simp only [if_neg bw415]; first | done | rfl | (simp only [sMn, sMx]; done) | (simp only [sMn, sMx]; rfl))), (show i 7452 = ((rMend (i 7424) x1 x2 x3 (a 118, a 117, i 7426, i 7427) (a 133, i 7452, i 7453)).2.2).2.1 from (by unfold rMend; simp only [if_neg bw415]; first | done | rfl | (simp only [sMn, sMx]; done) | (simp only [sMn, sMx]; rfl))), (show i 7453 = ((rMend (i 7424) x1 x2 x3 (a 118, a 117, i 7426, i 7427) (a 133, i 7452, i 7453)).2.2).2.2 from (by unfold rMend; simp only [if_neg bw415]; first | done | rfl | (simp only [sMn, sMx]; done) | (simp only [sMn, sMx]; rfl)))⟩, (kChL_cast hE_chg rfl)⟩⟩)
    exact (or245 w121 w180 w239 w298 w3 w357 w62 z2).elim
  ·
    subst eg1
    have fi_7424 : ((0 : Int) ≤ (i 7424).toInt) ∧ ((i 7424).toInt ≤ 8) := hG.I.1 7424
    have z416 : ¬ ((((0 : Int) ≤ x2.toInt) ∧ (x2.toInt ≤ 3) ∧ ((0 : Int) ≤ x1.toInt) ∧ (x1.toInt < (i 7424).toInt)) ∨ (((4 : Int) ≤ x2.toInt) ∧ (x2.toInt ≤ 6) ∧ (x1.toInt = 0))) := hg1
    first | refine fo_goS mi_k142 fz142_6_2_18 [.int (-1)] (by rfl) ?_ | refine fo_goS mi_k142 fz142_14_2_18 [.int (-1)] (by rfl) ?_
    have bw417 : ¬ (kTold (i 7424) x1 x2 ∧ kFit x2 x3) := (fun z => absurd z.1 (or74 fi_7424.1 z416))
    exact ft_ret mi_k142 (by rfl) (hP (-1) _ _ _ _ hG ⟨(or159 hp0), ⟨⟨(show ((-1) : Int32) = (rMend (i 7424) x1 x2 x3 (a 118, a 117, i 7426, i 7427) (a 133, i 7452, i 7453)).1 from (by unfold rMend; simp only [if_neg bw417]; first | done | rfl | (simp only [sMn, sMx]; done) | (simp only [sMn, sMx]; rfl))), (show a 118 = ((rMend (i 7424) x1 x2 x3 (a 118, a 117, i 7426, i 7427) (a 133, i 7452, i 7453)).2.1).1 from (by unfold rMend; simp only [if_neg bw417]; first | done | rfl | (simp only [sMn, sMx]; done) | (simp only [sMn, sMx]; rfl))), (show a 117 = ((rMend (i 7424) x1 x2 x3 (a 118, a 117, i 7426, i 7427) (a 133, i 7452, i 7453)).2.1).2.1 from (by unfold rMend; simp only [if_neg bw417]; first | done | rfl | (simp only [sMn, sMx]; done) | (simp only [sMn, sMx]; rfl))), (show i 7426 = ((rMend (i 7424) x1 x2 x3 (a 118, a 117, i 7426, i 7427) (a 133, i 7452, i 7453)).2.1).2.2.1 from (by unfold rMend; simp only [if_neg bw417]; first | done | rfl | (simp only [sMn, sMx]; done) | (simp only [sMn, sMx]; rfl))), (show i 7427 = ((rMend (i 7424) x1 x2 x3 (a 118, a 117, i 7426, i 7427) (a 133, i 7452, i 7453)).2.1).2.2.2 from (by unfold rMend; simp only [if_neg bw417]; first | done | rfl | (simp only [sMn, sMx]; done) | (simp only [sMn, sMx]; rfl))), (show a 133 = ((rMend (i 7424) x1 x2 x3 (a 118, a 117, i 7426, i 7427) (a 133, i 7452, i 7453)).2.2).1 from (by unfold rMend; simp only [if_neg bw417]; first | done | rfl | (simp only [sMn, sMx]; done) | (simp only [sMn, sMx]; rfl))), (show i 7452 = ((rMend (i 7424) x1 x2 x3 (a 118, a 117, i 7426, i 7427) (a 133, i 7452, i 7453)).2.2).2.1 from (by unfold rMend; simp only [if_neg bw417]; first | done | rfl | (simp only [sMn, sMx]; done) | (simp only [sMn, sMx]; rfl))), (show i 7453 = ((rMend (i 7424) x1 x2 x3 (a 118, a 117, i 7426, i 7427) (a 133, i 7452, i 7453)).2.2).2.2 from (by unfold rMend; simp only [if_neg bw417]; first | done | rfl | (simp only [sMn, sMx]; done) | (simp only [sMn, sMx]; rfl)))⟩, (kChL_cast hE_chg rfl)⟩⟩)
noncomputable def yw144_116 : kW := ([7426, 7427, 7453], [117, 118], [], [])
set_option maxRecDepth 100000 in
theorem ke144_116 {i : Nat → Int32} {a : Nat → List Int32} {q : Nat → List Int64} {r : Nat → Nat} (hI : kI i a q) (hr : kr r) (hp0 : (i 7453).toInt ≤ (i 7452).toInt) (hE_chg : kChg i a) : km 3 144 [.ref 116] (ks i a q r) (kVI yw144_116 i a q r (fun v i1 a1 q1 r1 => ((i1 7453).toInt ≤ (i1 7452).toInt) ∧ (v = (rUndo (a 118, a 117, i 7426, i 7427) (a 133, i 7452, i 7453)).1 ∧ a1 118 = ((rUndo (a 118, a 117, i 7426, i 7427) (a 133, i 7452, i 7453)).2.1).1 ∧ a1 117 = ((rUndo (a 118, a 117, i 7426, i 7427) (a 133, i 7452, i 7453)).2.1).2.1 ∧ i1 7426 = ((rUndo (a 118, a 117, i 7426, i 7427) (a 133, i 7452, i 7453)).2.1).2.2.1 ∧ i1 7427 = ((rUndo (a 118, a 117, i 7426, i 7427) (a 133, i 7452, i 7453)).2.1).2.2.2 ∧ a1 133 = ((rUndo (a 118, a 117, i 7426, i 7427) (a 133, i 7452, i 7453)).2.2).1 ∧ i1 7452 = ((rUndo (a 118, a 117, i 7426, i 7427) (a 133, i 7452, i 7453)).2.2).2.1 ∧ i1 7453 = ((rUndo (a 118, a 117, i 7426, i 7427) (a 133, i 7452, i 7453)).2.2).2.2))) := by
  have hG := kG_self yw144_116 hI hr
  refine km_ofI (q := (mi_h144, mi_c144)) rfl (by decide) (Nat.le_of_ble_eq_true rfl) ?_
  intro P hP
  have fi_7453 : ((0 : Int) ≤ (i 7453).toInt) ∧ ((i 7453).toInt ≤ 40) := hG.I.1 7453
  refine ft_goL mi_k144 2 4 [(0, .ref 116)] [.int (i 7453)] (by rfl) ?_
  refine ft_ifS mi_k144 ((i 7453) != 0) 10 7 [] (by rfl) (fun c => ?_) (fun c => ?_)
  ·
    have c1 : (i 7453).toInt ≠ (0 : Int32).toInt := kd_ne c; clear c
    have s2 : ((i 7453) - 1).toInt = (i 7453).toInt - (1 : Int32).toInt := kd_sub (or62 fi_7453.1 kor1) (or116 fi_7453.2 kor1)
    have hJ3 := kG_i hG 7453 rfl (v := ((i 7453) - 1)) ⟨(or246 c1 fi_7453.1 s2 kor0 kor1), (or118 fi_7453.2 s2 kor1)⟩
    have s4 : (4 * ((i 7453) - 1)).toInt = 4 * ((i 7453) - 1).toInt := kd_cmul 4 kor4 (or119 fi_7453.1 s2 kor1) (or120 fi_7453.2 s2 kor1)
    first | refine fo_goI mi_k144 fz144_10_13_31 [.int (4 * ((i 7453) - 1)), .ref 133, .ref 116] (ku i 7453 ((i 7453) - 1)) (by rfl) ?_ | refine ft_go mi_k144 13 31 [(0, .ref 116)] [.int (4 * ((i 7453) - 1)), .ref 133, .ref 116] (ku i 7453 ((i 7453) - 1)) a q r (by rfl) ?_
    refine ko_iald3 mi_k144.1 (n := 160) (c := 160) (ax := (0, 0, 0, 0, 0)) (mi_k144.2 _ _ (by rfl)) (by rfl) (ksG133 _ _ _ _) (hJ3.I.2.1 133) rfl (or247 c1 fi_7453.1 s2 s4 kor0 kor1) (or122 fi_7453.2 s2 s4 kor1) ?_
    have r5 : ((((4 * ((i 7453) - 1)).toInt % 4) = 0 → (0 : Int) ≤ ((a 133).getD (4 * ((i 7453) - 1)).toNatClampNeg 0).toInt ∧ ((a 133).getD (4 * ((i 7453) - 1)).toNatClampNeg 0).toInt ≤ 7)) ∧ ((((4 * ((i 7453) - 1)).toInt % 4) = 1 → (0 : Int) ≤ ((a 133).getD (4 * ((i 7453) - 1)).toNatClampNeg 0).toInt ∧ ((a 133).getD (4 * ((i 7453) - 1)).toNatClampNeg 0).toInt ≤ 6)) := kE_ccond hJ3.I (j := (4 * ((i 7453) - 1))) (or247 c1 fi_7453.1 s2 s4 kor0 kor1)
    have s6 : ((4 * ((i 7453) - 1)) + 1).toInt = (4 * ((i 7453) - 1)).toInt + (1 : Int32).toInt := kd_add (or248 c1 fi_7453.1 s2 s4 kor0 kor1) (or124 fi_7453.2 s2 s4 kor1)
    refine fo_goS mi_k144 fz144_32_8_44 [.int ((4 * ((i 7453) - 1)) + 1), .ref 133, .int ((a 133).getD (4 * ((i 7453) - 1)).toNatClampNeg 0), .ref 116] rfl ?_
    refine ko_iald3 mi_k144.1 (n := 160) (c := 160) (ax := (0, 0, 0, 0, 0)) (mi_k144.2 _ _ (by rfl)) (by rfl) (ksG133 _ _ _ _) (hJ3.I.2.1 133) rfl (or249 c1 fi_7453.1 s2 s4 s6 kor0 kor1) (or126 fi_7453.2 s2 s4 s6 kor1) ?_
    have r7 : (((((4 * ((i 7453) - 1)) + 1).toInt % 4) = 0 → (0 : Int) ≤ ((a 133).getD ((4 * ((i 7453) - 1)) + 1).toNatClampNeg 0).toInt ∧ ((a 133).getD ((4 * ((i 7453) - 1)) + 1).toNatClampNeg 0).toInt ≤ 7)) ∧ (((((4 * ((i 7453) - 1)) + 1).toInt % 4) = 1 → (0 : Int) ≤ ((a 133).getD ((4 * ((i 7453) - 1)) + 1).toNatClampNeg 0).toInt ∧ ((a 133).getD ((4 * ((i 7453) - 1)) + 1).toNatClampNeg 0).toInt ≤ 6)) := kE_ccond hJ3.I (j := ((4 * ((i 7453) - 1)) + 1)) (or249 c1 fi_7453.1 s2 s4 s6 kor0 kor1)
    have s8 : ((4 * ((i 7453) - 1)) + 2).toInt = (4 * ((i 7453) - 1)).toInt + (2 : Int32).toInt := kd_add (or250 c1 fi_7453.1 s2 s4 kor0 kor1 kor2) (or129 fi_7453.2 s2 s4 kor1 kor2)
    refine fo_goS mi_k144 fz144_45_8_57 [.int ((4 * ((i 7453) - 1)) + 2), .ref 133, .int ((a 133).getD ((4 * ((i 7453) - 1)) + 1).toNatClampNeg 0), .int ((a 133).getD (4 * ((i 7453) - 1)).toNatClampNeg 0), .ref 116] rfl ?_
    refine ko_iald3 mi_k144.1 (n := 160) (c := 160) (ax := (0, 0, 0, 0, 0)) (mi_k144.2 _ _ (by rfl)) (by rfl) (ksG133 _ _ _ _) (hJ3.I.2.1 133) rfl (or251 c1 fi_7453.1 s2 s4 s8 kor0 kor1 kor2) (or131 fi_7453.2 s2 s4 s8 kor1 kor2) ?_
    have r9 : (((((4 * ((i 7453) - 1)) + 2).toInt % 4) = 0 → (0 : Int) ≤ ((a 133).getD ((4 * ((i 7453) - 1)) + 2).toNatClampNeg 0).toInt ∧ ((a 133).getD ((4 * ((i 7453) - 1)) + 2).toNatClampNeg 0).toInt ≤ 7)) ∧ (((((4 * ((i 7453) - 1)) + 2).toInt % 4) = 1 → (0 : Int) ≤ ((a 133).getD ((4 * ((i 7453) - 1)) + 2).toNatClampNeg 0).toInt ∧ ((a 133).getD ((4 * ((i 7453) - 1)) + 2).toNatClampNeg 0).toInt ≤ 6)) := kE_ccond hJ3.I (j := ((4 * ((i 7453) - 1)) + 2)) (or251 c1 fi_7453.1 s2 s4 s8 kor0 kor1 kor2)
    have cn10 : ((0 : Int) ≤ ((a 133).getD (4 * ((i 7453) - 1)).toNatClampNeg 0).toInt) ∧ (((a 133).getD (4 * ((i 7453) - 1)).toNatClampNeg 0).toInt ≤ 7) := kE_cn hJ3.I (d := ((i 7453) - 1)) (or252 c1 fi_7453.1 s2 s4 kor0 kor1) (or108 s4)
    have cw11 : ((0 : Int) ≤ ((a 133).getD ((4 * ((i 7453) - 1)) + 1).toNatClampNeg 0).toInt) ∧ (((a 133).getD ((4 * ((i 7453) - 1)) + 1).toNatClampNeg 0).toInt ≤ 6) := kE_cw hJ3.I (d := ((i 7453) - 1)) (or252 c1 fi_7453.1 s2 s4 kor0 kor1) (or109 s4 s6 kor1)
    have ch12 : (((a 133).getD ((4 * ((i 7453) - 1)) + 1).toNatClampNeg 0).toInt = 4 → (1 : Int) ≤ ((a 133).getD ((4 * ((i 7453) - 1)) + 2).toNatClampNeg 0).toInt ∧ ((a 133).getD ((4 * ((i 7453) - 1)) + 2).toNatClampNeg 0).toInt ≤ 5) := kChL_u (kChg_of (i1 := ku i 7453 ((i 7453) - 1)) hE_chg (hJ3.fa 133 rfl)) (d := ((i 7453) - 1)) (or252 c1 fi_7453.1 s2 s4 kor0 kor1) (or109 s4 s6 kor1) (or110 s4 s8 kor2)
    refine ko_callN mi_k144.1 (pc := 58) (ls := [(0, .ref 116)]) (st := [.int ((a 133).getD ((4 * ((i 7453) - 1)) + 2).toNatClampNeg 0), .int ((a 133).getD ((4 * ((i 7453) - 1)) + 1).toNatClampNeg 0), .int ((a 133).getD (4 * ((i 7453) - 1)).toNatClampNeg 0), .ref 116]) (h := ks (ku i 7453 ((i 7453) - 1)) a q r) (i := (.invokevirtual 150, 3, 141, 0, 9, 0, 390)) (mi_k144.2 _ _ (by rfl)) (ft_invS mi_pq141 (by rfl)) (cy := mi_c141) mi_pq141 rfl (ke141_116 hJ3.I hJ3.R ((a 133).getD (4 * ((i 7453) - 1)).toNatClampNeg 0) ((a 133).getD ((4 * ((i 7453) - 1)) + 1).toNatClampNeg 0) ((a 133).getD ((4 * ((i 7453) - 1)) + 2).toNatClampNeg 0) (or253 cn10.1 cn10.2) (or254 cw11.1 cw11.2) (or255 ch12)) (by decide) ?_
    intro ig13 ag13 qg13 rg13 kg13 hg13
    have hGg13 := kG_call hJ3 kg13 (by decide +kernel)
    obtain ⟨hg13, og13⟩ := hg13
    have q14 : ag13 118 = (rSet ((a 133).getD (4 * ((i 7453) - 1)).toNatClampNeg 0) ((a 133).getD ((4 * ((i 7453) - 1)) + 1).toNatClampNeg 0) ((a 133).getD ((4 * ((i 7453) - 1)) + 2).toNatClampNeg 0) (a 118, a 117, i 7426, i 7427)).1 := og13.1
    have q15 : ag13 117 = (rSet ((a 133).getD (4 * ((i 7453) - 1)).toNatClampNeg 0) ((a 133).getD ((4 * ((i 7453) - 1)) + 1).toNatClampNeg 0) ((a 133).getD ((4 * ((i 7453) - 1)) + 2).toNatClampNeg 0) (a 118, a 117, i 7426, i 7427)).2.1 := og13.2.1
    have q16 : ig13 7426 = (rSet ((a 133).getD (4 * ((i 7453) - 1)).toNatClampNeg 0) ((a 133).getD ((4 * ((i 7453) - 1)) + 1).toNatClampNeg 0) ((a 133).getD ((4 * ((i 7453) - 1)) + 2).toNatClampNeg 0) (a 118, a 117, i 7426, i 7427)).2.2.1 := og13.2.2.1
    have q17 : ig13 7427 = (rSet ((a 133).getD (4 * ((i 7453) - 1)).toNatClampNeg 0) ((a 133).getD ((4 * ((i 7453) - 1)) + 1).toNatClampNeg 0) ((a 133).getD ((4 * ((i 7453) - 1)) + 2).toNatClampNeg 0) (a 118, a 117, i 7426, i 7427)).2.2.2 := og13.2.2.2
    have efig13_7453 : (ig13 7453).toInt = ((i 7453) - 1).toInt := kg13.ti 7453 rfl
    refine ft_goS mi_k144 2 65 [.int (ig13 7453)] (by rfl) ?_
    have efig13_7452 : (ig13 7452).toInt = (i 7452).toInt := kg13.ti 7452 rfl
    have bw18 : ¬ ((i 7453).toInt = 0) := (or257 c1 fi_7453.1 s2 s4 kor0 kor1)
    exact ft_ret mi_k144 (by rfl) (hP (ig13 7453) _ _ _ _ hGg13 ⟨(or256 efig13_7452 efig13_7453 hp0 s2 kor1), ⟨(show (ig13 7453) = (rUndo (a 118, a 117, i 7426, i 7427) (a 133, i 7452, i 7453)).1 from (by unfold rUndo; simp only [if_neg bw18]; first | done | rfl | (simp only [(show ig13 7453 = ((i 7453) - 1) from kg13.fi 7453 rfl), sMn, sMx]; done) | (simp only [(show ig13 7453 = ((i 7453) - 1) from kg13.fi 7453 rfl), sMn, sMx]; rfl))), (show ag13 118 = ((rUndo (a 118, a 117, i 7426, i 7427) (a 133, i 7452, i 7453)).2.1).1 from (by unfold rUndo; simp only [if_neg bw18]; first | done | rfl | (simp only [q14, sMn, sMx]; done) | (simp only [q14, sMn, sMx]; rfl))), (show ag13 117 = ((rUndo (a 118, a 117, i 7426, i 7427) (a 133, i 7452, i 7453)).2.1).2.1 from (by unfold rUndo; simp only [if_neg bw18]; first | done | rfl | (simp only [q15, sMn, sMx]; done) | (simp only [q15, sMn, sMx]; rfl))), (show ig13 7426 = ((rUndo (a 118, a 117, i 7426, i 7427) (a 133, i 7452, i 7453)).2.1).2.2.1 from (by unfold rUndo; simp only [if_neg bw18]; first | done | rfl | (simp only [q16, sMn, sMx]; done) | (simp only [q16, sMn, sMx]; rfl))), (show ig13 7427 = ((rUndo (a 118, a 117, i 7426, i 7427) (a 133, i 7452, i 7453)).2.1).2.2.2 from (by unfold rUndo; simp only [if_neg bw18]; first | done | rfl | (simp only [q17, sMn, sMx]; done) | (simp only [q17, sMn, sMx]; rfl))), (show ag13 133 = ((rUndo (a 118, a 117, i 7426, i 7427) (a 133, i 7452, i 7453)).2.2).1 from (by unfold rUndo; simp only [if_neg bw18]; first | done | rfl | (simp only [kg13.fa 133 rfl, sMn, sMx]; done) | (simp only [kg13.fa 133 rfl, sMn, sMx]; rfl))), (show ig13 7452 = ((rUndo (a 118, a 117, i 7426, i 7427) (a 133, i 7452, i 7453)).2.2).2.1 from (by unfold rUndo; simp only [if_neg bw18]; first | done | rfl | (simp only [(show ig13 7452 = i 7452 from kg13.fi 7452 rfl), sMn, sMx]; done) | (simp only [(show ig13 7452 = i 7452 from kg13.fi 7452 rfl), sMn, sMx]; rfl))), (show ig13 7453 = ((rUndo (a 118, a 117, i 7426, i 7427) (a 133, i 7452, i 7453)).2.2).2.2 from (by unfold rUndo; simp only [if_neg bw18]; first | done | rfl | (simp only [(show ig13 7453 = ((i 7453) - 1) from kg13.fi 7453 rfl), sMn, sMx]; done) | (simp only [(show ig13 7453 = ((i 7453) - 1) from kg13.fi 7453 rfl), sMn, sMx]; rfl)))⟩⟩)
  ·
    have c19 : (i 7453).toInt = (0 : Int32).toInt := kd_neF c; clear c
    refine ft_goS mi_k144 1 9 [.int (-5)] (by rfl) ?_
    have bw20 : (i 7453).toInt = 0 := (or258 c19 fi_7453.1 kor0)
    exact ft_ret mi_k144 (by rfl) (hP (-5) _ _ _ _ hG ⟨(or159 hp0), ⟨(show ((-5) : Int32) = (rUndo (a 118, a 117, i 7426, i 7427) (a 133, i 7452, i 7453)).1 from (by unfold rUndo; simp only [if_pos bw20]; first | done | rfl | (simp only [sMn, sMx]; done) | (simp only [sMn, sMx]; rfl))), (show a 118 = ((rUndo (a 118, a 117, i 7426, i 7427) (a 133, i 7452, i 7453)).2.1).1 from (by unfold rUndo; simp only [if_pos bw20]; first | done | rfl | (simp only [sMn, sMx]; done) | (simp only [sMn, sMx]; rfl))), (show a 117 = ((rUndo (a 118, a 117, i 7426, i 7427) (a 133, i 7452, i 7453)).2.1).2.1 from (by unfold rUndo; simp only [if_pos bw20]; first | done | rfl | (simp only [sMn, sMx]; done) | (simp only [sMn, sMx]; rfl))), (show i 7426 = ((rUndo (a 118, a 117, i 7426, i 7427) (a 133, i 7452, i 7453)).2.1).2.2.1 from (by unfold rUndo; simp only [if_pos bw20]; first | done | rfl | (simp only [sMn, sMx]; done) | (simp only [sMn, sMx]; rfl))), (show i 7427 = ((rUndo (a 118, a 117, i 7426, i 7427) (a 133, i 7452, i 7453)).2.1).2.2.2 from (by unfold rUndo; simp only [if_pos bw20]; first | done | rfl | (simp only [sMn, sMx]; done) | (simp only [sMn, sMx]; rfl))), (show a 133 = ((rUndo (a 118, a 117, i 7426, i 7427) (a 133, i 7452, i 7453)).2.2).1 from (by unfold rUndo; simp only [if_pos bw20]; first | done | rfl | (simp only [sMn, sMx]; done) | (simp only [sMn, sMx]; rfl))), (show i 7452 = ((rUndo (a 118, a 117, i 7426, i 7427) (a 133, i 7452, i 7453)).2.2).2.1 from (by unfold rUndo; simp only [if_pos bw20]; first | done | rfl | (simp only [sMn, sMx]; done) | (simp only [sMn, sMx]; rfl))), (show i 7453 = ((rUndo (a 118, a 117, i 7426, i 7427) (a 133, i 7452, i 7453)).2.2).2.2 from (by unfold rUndo; simp only [if_pos bw20]; first | done | rfl | (simp only [sMn, sMx]; done) | (simp only [sMn, sMx]; rfl)))⟩⟩)
noncomputable def yw145_116 : kW := ([7426, 7427, 7453], [117, 118], [], [])
set_option maxRecDepth 100000 in
theorem ke145_116 {i : Nat → Int32} {a : Nat → List Int32} {q : Nat → List Int64} {r : Nat → Nat} (hI : kI i a q) (hr : kr r) (hp0 : (i 7453).toInt ≤ (i 7452).toInt) (hE_chg : kChg i a) : km 3 145 [.ref 116] (ks i a q r) (kVI yw145_116 i a q r (fun v i1 a1 q1 r1 => ((i1 7453).toInt ≤ (i1 7452).toInt) ∧ (v = (rRedo (a 118, a 117, i 7426, i 7427) (a 133, i 7452, i 7453)).1 ∧ a1 118 = ((rRedo (a 118, a 117, i 7426, i 7427) (a 133, i 7452, i 7453)).2.1).1 ∧ a1 117 = ((rRedo (a 118, a 117, i 7426, i 7427) (a 133, i 7452, i 7453)).2.1).2.1 ∧ i1 7426 = ((rRedo (a 118, a 117, i 7426, i 7427) (a 133, i 7452, i 7453)).2.1).2.2.1 ∧ i1 7427 = ((rRedo (a 118, a 117, i 7426, i 7427) (a 133, i 7452, i 7453)).2.1).2.2.2 ∧ a1 133 = ((rRedo (a 118, a 117, i 7426, i 7427) (a 133, i 7452, i 7453)).2.2).1 ∧ i1 7452 = ((rRedo (a 118, a 117, i 7426, i 7427) (a 133, i 7452, i 7453)).2.2).2.1 ∧ i1 7453 = ((rRedo (a 118, a 117, i 7426, i 7427) (a 133, i 7452, i 7453)).2.2).2.2))) := by
  have hG := kG_self yw145_116 hI hr
  refine km_ofI (q := (mi_h145, mi_c145)) rfl (by decide) (Nat.le_of_ble_eq_true rfl) ?_
  intro P hP
  have fi_7453 : ((0 : Int) ≤ (i 7453).toInt) ∧ ((i 7453).toInt ≤ 40) := hG.I.1 7453
  have fi_7452 : ((0 : Int) ≤ (i 7452).toInt) ∧ ((i 7452).toInt ≤ 40) := hG.I.1 7452
  refine ft_goL mi_k145 4 8 [(0, .ref 116)] [.int (i 7452), .int (i 7453)] (by rfl) ?_
  refine ft_ifS mi_k145 ((i 7453) != (i 7452)) 14 11 [] (by rfl) (fun c => ?_) (fun c => ?_)
  ·
    have c1 : (i 7453).toInt ≠ (i 7452).toInt := kd_ne c; clear c
    have s2 : (4 * (i 7453)).toInt = 4 * (i 7453).toInt := kd_cmul 4 kor4 (or79 fi_7453.1) (or80 fi_7453.2)
    refine fo_goS mi_k145 fz145_14_7_25 [.int (4 * (i 7453)), .ref 133, .ref 116] rfl ?_
    refine ko_iald3 mi_k145.1 (n := 160) (c := 160) (ax := (0, 0, 0, 0, 0)) (mi_k145.2 _ _ (by rfl)) (by rfl) (ksG133 _ _ _ _) (hG.I.2.1 133) rfl (or81 fi_7453.1 s2) (or259 c1 fi_7452.2 hp0 s2) ?_
    have r3 : ((((4 * (i 7453)).toInt % 4) = 0 → (0 : Int) ≤ ((a 133).getD (4 * (i 7453)).toNatClampNeg 0).toInt ∧ ((a 133).getD (4 * (i 7453)).toNatClampNeg 0).toInt ≤ 7)) ∧ ((((4 * (i 7453)).toInt % 4) = 1 → (0 : Int) ≤ ((a 133).getD (4 * (i 7453)).toNatClampNeg 0).toInt ∧ ((a 133).getD (4 * (i 7453)).toNatClampNeg 0).toInt ≤ 6)) := kE_ccond hG.I (j := (4 * (i 7453))) (or81 fi_7453.1 s2)
    have s4 : ((4 * (i 7453)) + 1).toInt = (4 * (i 7453)).toInt + (1 : Int32).toInt := kd_add (or84 fi_7453.1 s2 kor1) (or85 fi_7453.2 s2 kor1)
    refine fo_goS mi_k145 fz145_26_8_38 [.int ((4 * (i 7453)) + 1), .ref 133, .int ((a 133).getD (4 * (i 7453)).toNatClampNeg 0), .ref 116] rfl ?_
    refine ko_iald3 mi_k145.1 (n := 160) (c := 160) (ax := (0, 0, 0, 0, 0)) (mi_k145.2 _ _ (by rfl)) (by rfl) (ksG133 _ _ _ _) (hG.I.2.1 133) rfl (or86 fi_7453.1 s2 s4 kor1) (or260 c1 fi_7452.2 hp0 s2 s4 kor1) ?_
    have r5 : (((((4 * (i 7453)) + 1).toInt % 4) = 0 → (0 : Int) ≤ ((a 133).getD ((4 * (i 7453)) + 1).toNatClampNeg 0).toInt ∧ ((a 133).getD ((4 * (i 7453)) + 1).toNatClampNeg 0).toInt ≤ 7)) ∧ (((((4 * (i 7453)) + 1).toInt % 4) = 1 → (0 : Int) ≤ ((a 133).getD ((4 * (i 7453)) + 1).toNatClampNeg 0).toInt ∧ ((a 133).getD ((4 * (i 7453)) + 1).toNatClampNeg 0).toInt ≤ 6)) := kE_ccond hG.I (j := ((4 * (i 7453)) + 1)) (or86 fi_7453.1 s2 s4 kor1)
    have s6 : ((4 * (i 7453)) + 3).toInt = (4 * (i 7453)).toInt + (3 : Int32).toInt := kd_add (or94 fi_7453.1 s2 kor3) (or95 fi_7453.2 s2 kor3)
    refine fo_goS mi_k145 fz145_39_8_51 [.int ((4 * (i 7453)) + 3), .ref 133, .int ((a 133).getD ((4 * (i 7453)) + 1).toNatClampNeg 0), .int ((a 133).getD (4 * (i 7453)).toNatClampNeg 0), .ref 116] rfl ?_
    refine ko_iald3 mi_k145.1 (n := 160) (c := 160) (ax := (0, 0, 0, 0, 0)) (mi_k145.2 _ _ (by rfl)) (by rfl) (ksG133 _ _ _ _) (hG.I.2.1 133) rfl (or96 fi_7453.1 s2 s6 kor3) (or261 c1 fi_7452.2 hp0 s2 s6 kor3) ?_
    have r7 : (((((4 * (i 7453)) + 3).toInt % 4) = 0 → (0 : Int) ≤ ((a 133).getD ((4 * (i 7453)) + 3).toNatClampNeg 0).toInt ∧ ((a 133).getD ((4 * (i 7453)) + 3).toNatClampNeg 0).toInt ≤ 7)) ∧ (((((4 * (i 7453)) + 3).toInt % 4) = 1 → (0 : Int) ≤ ((a 133).getD ((4 * (i 7453)) + 3).toNatClampNeg 0).toInt ∧ ((a 133).getD ((4 * (i 7453)) + 3).toNatClampNeg 0).toInt ≤ 6)) := kE_ccond hG.I (j := ((4 * (i 7453)) + 3)) (or96 fi_7453.1 s2 s6 kor3)
    have cn8 : ((0 : Int) ≤ ((a 133).getD (4 * (i 7453)).toNatClampNeg 0).toInt) ∧ (((a 133).getD (4 * (i 7453)).toNatClampNeg 0).toInt ≤ 7) := kE_cn hG.I (d := (i 7453)) (or0 fi_7453.1) (or108 s2)
    have cw9 : ((0 : Int) ≤ ((a 133).getD ((4 * (i 7453)) + 1).toNatClampNeg 0).toInt) ∧ (((a 133).getD ((4 * (i 7453)) + 1).toNatClampNeg 0).toInt ≤ 6) := kE_cw hG.I (d := (i 7453)) (or0 fi_7453.1) (or109 s2 s4 kor1)
    have ch10 : (((a 133).getD ((4 * (i 7453)) + 1).toNatClampNeg 0).toInt = 4 → (1 : Int) ≤ ((a 133).getD ((4 * (i 7453)) + 3).toNatClampNeg 0).toInt ∧ ((a 133).getD ((4 * (i 7453)) + 3).toNatClampNeg 0).toInt ≤ 5) := kChL_r (kChg_of (i1 := i) hE_chg (hG.fa 133 rfl)) (d := (i 7453)) (or0 fi_7453.1) (or109 s2 s4 kor1) (or111 s2 s6 kor3)
    refine ko_callN mi_k145.1 (pc := 52) (ls := [(0, .ref 116)]) (st := [.int ((a 133).getD ((4 * (i 7453)) + 3).toNatClampNeg 0), .int ((a 133).getD ((4 * (i 7453)) + 1).toNatClampNeg 0), .int ((a 133).getD (4 * (i 7453)).toNatClampNeg 0), .ref 116]) (h := ks i a q r) (i := (.invokevirtual 150, 3, 141, 0, 9, 0, 390)) (mi_k145.2 _ _ (by rfl)) (ft_invS mi_pq141 (by rfl)) (cy := mi_c141) mi_pq141 rfl (ke141_116 hG.I hG.R ((a 133).getD (4 * (i 7453)).toNatClampNeg 0) ((a 133).getD ((4 * (i 7453)) + 1).toNatClampNeg 0) ((a 133).getD ((4 * (i 7453)) + 3).toNatClampNeg 0) (or253 cn8.1 cn8.2) (or254 cw9.1 cw9.2) (or255 ch10)) (by decide) ?_
    intro ig11 ag11 qg11 rg11 kg11 hg11
    have hGg11 := kG_call hG kg11 (by decide +kernel)
    obtain ⟨hg11, og11⟩ := hg11
    have q12 : ag11 118 = (rSet ((a 133).getD (4 * (i 7453)).toNatClampNeg 0) ((a 133).getD ((4 * (i 7453)) + 1).toNatClampNeg 0) ((a 133).getD ((4 * (i 7453)) + 3).toNatClampNeg 0) (a 118, a 117, i 7426, i 7427)).1 := og11.1
    have q13 : ag11 117 = (rSet ((a 133).getD (4 * (i 7453)).toNatClampNeg 0) ((a 133).getD ((4 * (i 7453)) + 1).toNatClampNeg 0) ((a 133).getD ((4 * (i 7453)) + 3).toNatClampNeg 0) (a 118, a 117, i 7426, i 7427)).2.1 := og11.2.1
    have q14 : ig11 7426 = (rSet ((a 133).getD (4 * (i 7453)).toNatClampNeg 0) ((a 133).getD ((4 * (i 7453)) + 1).toNatClampNeg 0) ((a 133).getD ((4 * (i 7453)) + 3).toNatClampNeg 0) (a 118, a 117, i 7426, i 7427)).2.2.1 := og11.2.2.1
    have q15 : ig11 7427 = (rSet ((a 133).getD (4 * (i 7453)).toNatClampNeg 0) ((a 133).getD ((4 * (i 7453)) + 1).toNatClampNeg 0) ((a 133).getD ((4 * (i 7453)) + 3).toNatClampNeg 0) (a 118, a 117, i 7426, i 7427)).2.2.2 := og11.2.2.2
    have fig11_7453 : ((0 : Int) ≤ (ig11 7453).toInt) ∧ ((ig11 7453).toInt ≤ 40) := hGg11.I.1 7453
    have efig11_7453 : (ig11 7453).toInt = (i 7453).toInt := kg11.ti 7453 rfl
    have s16 : ((ig11 7453) + 1).toInt = (ig11 7453).toInt + (1 : Int32).toInt := kd_add (or98 fig11_7453.1 kor1) (or99 fig11_7453.2 kor1)
    have hJ17 := kG_i hGg11 7453 rfl (v := ((ig11 7453) + 1)) ⟨(or100 fig11_7453.1 s16 kor1), (or262 c1 efig11_7453 fi_7452.2 hp0 s16 s2 kor1)⟩
    have fig11_7452 : ((0 : Int) ≤ (ig11 7452).toInt) ∧ ((ig11 7452).toInt ≤ 40) := hJ17.I.1 7452
    have efig11_7452 : (ig11 7452).toInt = (i 7452).toInt := kg11.ti 7452 rfl
    have s18 : ((ig11 7452) - ((ig11 7453) + 1)).toInt = (ig11 7452).toInt - ((ig11 7453) + 1).toInt := kd_sub (or263 fig11_7452.1 fig11_7453.2 s16 kor1) (or264 fig11_7452.2 fig11_7453.1 s16 kor1)
    first | refine fo_goI mi_k145 fz145_55_11_74 [.int ((ig11 7452) - ((ig11 7453) + 1))] (ku ig11 7453 ((ig11 7453) + 1)) (by rfl) ?_ | refine ft_go mi_k145 11 74 [(0, .ref 116)] [.int ((ig11 7452) - ((ig11 7453) + 1))] (ku ig11 7453 ((ig11 7453) + 1)) ag11 qg11 rg11 (by rfl) ?_
    have bw19 : ¬ ((i 7453).toInt = (i 7452).toInt) := (or266 c1 hp0)
    exact ft_ret mi_k145 (by rfl) (hP ((ig11 7452) - ((ig11 7453) + 1)) _ _ _ _ hJ17 ⟨(or265 c1 efig11_7452 efig11_7453 hp0 s16 kor1), ⟨(show ((ig11 7452) - ((ig11 7453) + 1)) = (rRedo (a 118, a 117, i 7426, i 7427) (a 133, i 7452, i 7453)).1 from (by unfold rRedo; simp only [if_neg bw19]; first | done | rfl | (simp only [(show ig11 7452 = i 7452 from kg11.fi 7452 rfl), (show ig11 7453 = i 7453 from kg11.fi 7453 rfl), sMn, sMx]; done) | (simp only [(show ig11 7452 = i 7452 from kg11.fi 7452 rfl), (show ig11 7453 = i 7453 from kg11.fi 7453 rfl), sMn, sMx]; rfl))), (show ag11 118 = ((rRedo (a 118, a 117, i 7426, i 7427) (a 133, i 7452, i 7453)).2.1).1 from (by unfold rRedo; simp only [if_neg bw19]; first | done | rfl | (simp only [q12, sMn, sMx]; done) | (simp only [q12, sMn, sMx]; rfl))), (show ag11 117 = ((rRedo (a 118, a 117, i 7426, i 7427) (a 133, i 7452, i 7453)).2.1).2.1 from (by unfold rRedo; simp only [if_neg bw19]; first | done | rfl | (simp only [q13, sMn, sMx]; done) | (simp only [q13, sMn, sMx]; rfl))), (show ig11 7426 = ((rRedo (a 118, a 117, i 7426, i 7427) (a 133, i 7452, i 7453)).2.1).2.2.1 from (by unfold rRedo; simp only [if_neg bw19]; first | done | rfl | (simp only [q14, sMn, sMx]; done) | (simp only [q14, sMn, sMx]; rfl))), (show ig11 7427 = ((rRedo (a 118, a 117, i 7426, i 7427) (a 133, i 7452, i 7453)).2.1).2.2.2 from (by unfold rRedo; simp only [if_neg bw19]; first | done | rfl | (simp only [q15, sMn, sMx]; done) | (simp only [q15, sMn, sMx]; rfl))), (show ag11 133 = ((rRedo (a 118, a 117, i 7426, i 7427) (a 133, i 7452, i 7453)).2.2).1 from (by unfold rRedo; simp only [if_neg bw19]; first | done | rfl | (simp only [kg11.fa 133 rfl, sMn, sMx]; done) | (simp only [kg11.fa 133 rfl, sMn, sMx]; rfl))), (show ig11 7452 = ((rRedo (a 118, a 117, i 7426, i 7427) (a 133, i 7452, i 7453)).2.2).2.1 from (by unfold rRedo; simp only [if_neg bw19]; first | done | rfl | (simp only [(show ig11 7452 = i 7452 from kg11.fi 7452 rfl), sMn, sMx]; done) | (simp only [(show ig11 7452 = i 7452 from kg11.fi 7452 rfl), sMn, sMx]; rfl))), (show ((ig11 7453) + 1) = ((rRedo (a 118, a 117, i 7426, i 7427) (a 133, i 7452, i 7453)).2.2).2.2 from (by unfold rRedo; simp only [if_neg bw19]; first | done | rfl | (simp only [(show ig11 7453 = i 7453 from kg11.fi 7453 rfl), sMn, sMx]; done) | (simp only [(show ig11 7453 = i 7453 from kg11.fi 7453 rfl), sMn, sMx]; rfl)))⟩⟩)
  ·
    have c20 : (i 7453).toInt = (i 7452).toInt := kd_neF c; clear c
    refine ft_goS mi_k145 1 13 [.int (-5)] (by rfl) ?_
    have bw21 : (i 7453).toInt = (i 7452).toInt := (or267 c20 hp0)
    exact ft_ret mi_k145 (by rfl) (hP (-5) _ _ _ _ hG ⟨(or159 hp0), ⟨(show ((-5) : Int32) = (rRedo (a 118, a 117, i 7426, i 7427) (a 133, i 7452, i 7453)).1 from (by unfold rRedo; simp only [if_pos bw21]; first | done | rfl | (simp only [sMn, sMx]; done) | (simp only [sMn, sMx]; rfl))), (show a 118 = ((rRedo (a 118, a 117, i 7426, i 7427) (a 133, i 7452, i 7453)).2.1).1 from (by unfold rRedo; simp only [if_pos bw21]; first | done | rfl | (simp only [sMn, sMx]; done) | (simp only [sMn, sMx]; rfl))), (show a 117 = ((rRedo (a 118, a 117, i 7426, i 7427) (a 133, i 7452, i 7453)).2.1).2.1 from (by unfold rRedo; simp only [if_pos bw21]; first | done | rfl | (simp only [sMn, sMx]; done) | (simp only [sMn, sMx]; rfl))), (show i 7426 = ((rRedo (a 118, a 117, i 7426, i 7427) (a 133, i 7452, i 7453)).2.1).2.2.1 from (by unfold rRedo; simp only [if_pos bw21]; first | done | rfl | (simp only [sMn, sMx]; done) | (simp only [sMn, sMx]; rfl))), (show i 7427 = ((rRedo (a 118, a 117, i 7426, i 7427) (a 133, i 7452, i 7453)).2.1).2.2.2 from (by unfold rRedo; simp only [if_pos bw21]; first | done | rfl | (simp only [sMn, sMx]; done) | (simp only [sMn, sMx]; rfl))), (show a 133 = ((rRedo (a 118, a 117, i 7426, i 7427) (a 133, i 7452, i 7453)).2.2).1 from (by unfold rRedo; simp only [if_pos bw21]; first | done | rfl | (simp only [sMn, sMx]; done) | (simp only [sMn, sMx]; rfl))), (show i 7452 = ((rRedo (a 118, a 117, i 7426, i 7427) (a 133, i 7452, i 7453)).2.2).2.1 from (by unfold rRedo; simp only [if_pos bw21]; first | done | rfl | (simp only [sMn, sMx]; done) | (simp only [sMn, sMx]; rfl))), (show i 7453 = ((rRedo (a 118, a 117, i 7426, i 7427) (a 133, i 7452, i 7453)).2.2).2.2 from (by unfold rRedo; simp only [if_pos bw21]; first | done | rfl | (simp only [sMn, sMx]; done) | (simp only [sMn, sMx]; rfl)))⟩⟩)
noncomputable def yw168_116_131 : kW := ([], [131], [], [])
noncomputable def yw168_116_131_L2 : kW := ([], [131], [], [])
set_option maxRecDepth 100000 in
theorem ke168_116_131 {i : Nat → Int32} {a : Nat → List Int32} {q : Nat → List Int64} {r : Nat → Nat} (hI : kI i a q) (hr : kr r) (x2 : Int32) (hp0 : x2.toInt = 0) : km 1 168 [.ref 116, .ref 131, .int x2] (ks i a q r) (kVN yw168_116_131 i a q r (fun i1 a1 q1 r1 => (True) ∧ a1 131 = a 118)) := by
  have hG := kG_self yw168_116_131 hI hr
  refine km_ofN (q := (mi_h168, mi_c168)) rfl (by decide) (Nat.le_of_ble_eq_true rfl) ?_
  intro P hP
  first | refine fo_goL mi_k168 fz168_0_2_2 [(3, .int 0), (0, .ref 116), (1, .ref 131), (2, .int x2)] [] (by rfl) ?_ | refine fo_goL mi_k168 fz168_19_2_2 [(3, .int 0), (0, .ref 116), (1, .ref 131), (2, .int x2)] [] (by rfl) ?_
  have lp1 : ∀ (nz : Nat) (i1 : Nat → Int32) (a1 : Nat → List Int32) (q1 : Nat → List Int64) (r1 : Nat → Nat) (l3_1 : Int32), kG yw168_116_131_L2 i a q r i1 a1 q1 r1 → (0 : Int) ≤ l3_1.toInt → kCopd (a1 131) (a 118) 0 l3_1.toInt → ((31 - l3_1.toInt)).toNat < nz → ko 1 (mi_h168, mi_c168) P (2, [(3, .int l3_1), (0, .ref 116), (1, .ref 131), (2, .int x2)], [], (0, 0), ks i1 a1 q1 r1) := by
    intro nz
    induction nz with
    | zero =>
      intro _ _ _ _ _ _ _ _ hm
      exact absurd hm (Nat.not_lt_zero _)
    | succ nz ih1 =>
      intro i1 a1 q1 r1 l3_1 hL1 p1_0 O1_0 hm1
      refine fo_goL mi_k168 fz168_2_2_5 [(3, .int l3_1), (0, .ref 116), (1, .ref 131), (2, .int x2)] [.int 31, .int l3_1] rfl ?_
      refine ft_ifS mi_k168 (decide (31 ≤ l3_1)) 25 8 [] (by rfl) (fun c => ?_) (fun c => ?_)
      ·
        have c2 : (31 : Int32).toInt ≤ l3_1.toInt := kd_le c; clear c
        have hG3 := kG_call hG hL1 (by decide +kernel)
        exact ft_ret mi_k168 (by rfl) (hP  _ _ _ _ hG3 ⟨trivial, (show a1 131 = a 118 from (kCopd_end O1_0 (hG3.I.2.1 131) (hG.I.2.1 118) (or271 c2 kor31)))⟩)
      ·
        have c4 : l3_1.toInt < (31 : Int32).toInt := kd_leF c; clear c
        have s5 : (x2 + l3_1).toInt = x2.toInt + l3_1.toInt := kd_add (or272 hp0 p1_0) (or273 c4 hp0 kor31)
        refine fo_goS mi_k168 fz168_8_7_17 [.int l3_1, .ref 118, .int (x2 + l3_1), .ref 131] rfl ?_
        refine ko_iald3 mi_k168.1 (n := 31) (c := 31) (ax := (0, 0, 0, 0, 0)) (mi_k168.2 _ _ (by rfl)) (by rfl) (ksG118 _ _ _ _) (hL1.I.2.1 118) rfl (or0 p1_0) (or274 c4 kor31) ?_
        have r6 : ((l3_1.toInt = 18 → (0 : Int) ≤ ((a1 118).getD l3_1.toNatClampNeg 0).toInt ∧ ((a1 118).getD l3_1.toNatClampNeg 0).toInt ≤ 5)) ∧ ((19 ≤ l3_1.toInt → l3_1.toInt ≤ 24 → (0 : Int) ≤ ((a1 118).getD l3_1.toNatClampNeg 0).toInt ∧ ((a1 118).getD l3_1.toNatClampNeg 0).toInt ≤ 7)) := kE_ncond (p := 118) hL1.I (by decide) (j := l3_1) (or0 p1_0)
        have u7 : ((a1 118).getD l3_1.toNatClampNeg 0).toInt = ((a 118).getD l3_1.toNatClampNeg 0).toInt := congrArg (fun z : List Int32 => (z.getD l3_1.toNatClampNeg 0).toInt) (hL1.fa 118 rfl)
        refine ko_iast3 mi_k168.1 (n := 31) (c := 31) (ax := (0, 0, 0, 0, 0)) (mi_k168.2 _ _ (by rfl)) (by rfl) (ksG131 _ _ _ _) (ksA131 _ _ _ _) (hL1.I.2.1 131) rfl (or275 hp0 p1_0 s5) (or276 c4 hp0 s5 kor31) ?_
        intro a8 ea8 fa8
        have hJ8 := kG_a3 hL1 131 rfl ea8 fa8 (kE_nset (p := 131) (by decide) (or275 hp0 p1_0 s5) (or277 hp0 r6.1 s5) (or278 hp0 r6.2 s5))
        have s9 : (l3_1 + 1).toInt = l3_1.toInt + (1 : Int32).toInt := kd_add (or98 p1_0 kor1) (or279 c4 kor31 kor1)
        first | refine fo_goL mi_k168 fz168_0_2_2 [(3, .int (l3_1 + 1)), (0, .ref 116), (1, .ref 131), (2, .int x2)] [] (by rfl) ?_ | refine fo_goL mi_k168 fz168_19_2_2 [(3, .int (l3_1 + 1)), (0, .ref 116), (1, .ref 131), (2, .int x2)] [] (by rfl) ?_
        exact ih1 _ _ _ _ _ hJ8 (or100 p1_0 s9 kor1) (kCopd_step O1_0 (hL1.I.2.1 131) (or0 p1_0) (or274 c4 kor31) (or280 hp0 s5) or281 (or276 c4 hp0 s5 kor31) (or155 s9 kor1) (hL1.fa 118 rfl) ea8 rfl) (kj_meas (or282 s9 kor1) (or283 c4 kor31) hm1)
  exact lp1 _ _ _ _ _ _ (kG_self _ hG.I hG.R) (or284 kor0) (kCopd_zero kor0) (Nat.lt_succ_self _)
noncomputable def yw206_116 : kW := ([7448, 7449], [131, 132], [], [])
noncomputable def yw206_116_L24 : kW := ([], [132], [], [])
set_option maxRecDepth 100000 in
theorem ke206_116 {i : Nat → Int32} {a : Nat → List Int32} {q : Nat → List Int64} {r : Nat → Nat} (hI : kI i a q) (hr : kr r)  : km 3 206 [.ref 116] (ks i a q r) (kVI yw206_116 i a q r (fun v i1 a1 q1 r1 => (True) ∧ (i1 7448 = 1 ∧ i1 7449 = i 7424 ∧ a1 131 = a 118 ∧ a1 132 = a 130 ∧ v = (a 130).getD (0 : Int32).toNatClampNeg 0))) := by
  have hG := kG_self yw206_116 hI hr
  refine km_ofI (q := (mi_h206, mi_c206)) rfl (by decide) (Nat.le_of_ble_eq_true rfl) ?_
  intro P hP
  have hJ1 := kG_i hG 7448 rfl (v := 1) ⟨(or268 kor1), (or269 kor1)⟩
  have fi_7424 : ((0 : Int) ≤ (i 7424).toInt) ∧ ((i 7424).toInt ≤ 8) := hJ1.I.1 7424
  have hJ2 := kG_i hJ1 7449 rfl (v := (i 7424)) ⟨(or0 fi_7424.1), (or270 fi_7424.2)⟩
  first | refine fo_go mi_k206 fz206_0_11_19 [(0, .ref 116)] [.int 0, .ref 131, .ref 116] (ku (ku i 7448 1) 7449 (i 7424)) a q r (by rfl) ?_ | refine ft_go mi_k206 11 19 [(0, .ref 116)] [.int 0, .ref 131, .ref 116] (ku (ku i 7448 1) 7449 (i 7424)) a q r (by rfl) ?_
  refine ko_callN mi_k206.1 (pc := 19) (ls := [(0, .ref 116)]) (st := [.int 0, .ref 131, .ref 116]) (h := ks (ku (ku i 7448 1) 7449 (i 7424)) a q r) (i := (.invokevirtual 263, 3, 168, 0, 9, 0, 413)) (mi_k206.2 _ _ (by rfl)) (ft_invS mi_pq168 (by rfl)) (cy := mi_c168) mi_pq168 rfl (ke168_116_131 hJ2.I hJ2.R 0 (or104 kor0)) (by decide) ?_
  intro ig3 ag3 qg3 rg3 kg3 hg3
  have hGg3 := kG_call hJ2 kg3 (by decide +kernel)
  obtain ⟨hg3, og3⟩ := hg3
  have q4 : ag3 131 = a 118 := og3
  first | refine ft_goL mi_k206 2 24 [(1, .int 0), (0, .ref 116)] [] (by rfl) ?_
  have lp5 : ∀ (nz : Nat) (i5 : Nat → Int32) (a5 : Nat → List Int32) (q5 : Nat → List Int64) (r5 : Nat → Nat) (l1_5 : Int32), kG yw206_116_L24 ig3 ag3 qg3 rg3 i5 a5 q5 r5 → (0 : Int) ≤ l1_5.toInt → kPre (a5 132) (a 130) l1_5.toInt → ((5 - l1_5.toInt)).toNat < nz → ko 3 (mi_h206, mi_c206) P (24, [(1, .int l1_5), (0, .ref 116)], [], (0, 0), ks i5 a5 q5 r5) := by
    intro nz
    induction nz with
    | zero =>
      intro _ _ _ _ _ _ _ _ hm
      exact absurd hm (Nat.not_lt_zero _)
    | succ nz ih5 =>
      intro i5 a5 q5 r5 l1_5 hL5 p5_0 O5_0 hm5
      refine ft_goL mi_k206 2 26 [(1, .int l1_5), (0, .ref 116)] [.int 5, .int l1_5] (by rfl) ?_
      refine ft_ifS mi_k206 (decide (5 ≤ l1_5)) 47 29 [] (by rfl) (fun c => ?_) (fun c => ?_)
      ·
        have c6 : (5 : Int32).toInt ≤ l1_5.toInt := kd_le c; clear c
        have hG7 := kG_call hGg3 hL5 (by decide +kernel)
        have qp8 : a5 132 = a 130 := kPre_end O5_0 (hG7.I.2.1 132) (hG.I.2.1 130) (or285 c6 kor5)
        refine ft_goS mi_k206 3 52 [.int 0, .ref 130] (by rfl) ?_
        refine ko_iald3 mi_k206.1 (n := 5) (c := 5) (ax := (0, 0, 0, 0, 0)) (mi_k206.2 _ _ (by rfl)) (by rfl) (ksG130 _ _ _ _) (hG7.I.2.1 130) rfl (or284 kor0) (or286 kor0) ?_
        exact ft_ret mi_k206 (by rfl) (hP ((a5 130).getD (0 : Int32).toNatClampNeg 0) _ _ _ _ hG7 ⟨trivial, ⟨(show i5 7448 = 1 from (by first | rfl | (simp only [(show i5 7448 = ig3 7448 from hL5.fi 7448 rfl), (show ig3 7448 = (1 : Int32) from kg3.fi 7448 rfl), sMn, sMx]; done) | (simp only [(show i5 7448 = ig3 7448 from hL5.fi 7448 rfl), (show ig3 7448 = (1 : Int32) from kg3.fi 7448 rfl), sMn, sMx]; rfl))), (show i5 7449 = i 7424 from (by first | rfl | (simp only [(show i5 7449 = ig3 7449 from hL5.fi 7449 rfl), (show ig3 7449 = (i 7424) from kg3.fi 7449 rfl), sMn, sMx]; done) | (simp only [(show i5 7449 = ig3 7449 from hL5.fi 7449 rfl), (show ig3 7449 = (i 7424) from kg3.fi 7449 rfl), sMn, sMx]; rfl))), (show a5 131 = a 118 from (by first | rfl | (simp only [hL5.fa 131 rfl, q4, sMn, sMx]; done) | (simp only [hL5.fa 131 rfl, q4, sMn, sMx]; rfl))), (show a5 132 = a 130 from (by first | rfl | (simp only [qp8, sMn, sMx]; done) | (simp only [qp8, sMn, sMx]; rfl))), (show ((a5 130).getD (0 : Int32).toNatClampNeg 0) = (a 130).getD (0 : Int32).toNatClampNeg 0 from (by first | rfl | (simp only [hL5.fa 130 rfl, kg3.fa 130 rfl, sMn, sMx]; done) | (simp only [hL5.fa 130 rfl, kg3.fa 130 rfl, sMn, sMx]; rfl)))⟩⟩)
      ·
        have c9 : l1_5.toInt < (5 : Int32).toInt := kd_leF c; clear c
        refine fo_goS mi_k206 fz206_29_6_39 [.int l1_5, .ref 130, .int l1_5, .ref 132] rfl ?_
        refine ko_iald3 mi_k206.1 (n := 5) (c := 5) (ax := (0, 0, 0, 0, 0)) (mi_k206.2 _ _ (by rfl)) (by rfl) (ksG130 _ _ _ _) (hL5.I.2.1 130) rfl (or0 p5_0) (or287 c9 kor5) ?_
        refine ko_iast3 mi_k206.1 (n := 5) (c := 5) (ax := (0, 0, 0, 0, 0)) (mi_k206.2 _ _ (by rfl)) (by rfl) (ksG132 _ _ _ _) (ksA132 _ _ _ _) (hL5.I.2.1 132) rfl (or0 p5_0) (or287 c9 kor5) ?_
        intro a10 ea10 fa10
        have hJ10 := kG_a3 hL5 132 rfl ea10 fa10 (kd_bd _)
        have s11 : (l1_5 + 1).toInt = l1_5.toInt + (1 : Int32).toInt := kd_add (or98 p5_0 kor1) (or288 c9 kor5 kor1)
        first | refine ft_goL mi_k206 2 24 [(1, .int (l1_5 + 1)), (0, .ref 116)] [] (by rfl) ?_
        exact ih5 _ _ _ _ _ hJ10 (or100 p5_0 s11 kor1) (kPre_step O5_0 (hL5.I.2.1 132) (or0 p5_0) (or289 c9 kor5) (or155 s11 kor1) ((hL5.fa 130 rfl).trans (kg3.fa 130 rfl)) ea10) (kj_meas (or290 s11 kor1) (or291 c9 kor5) hm5)
  exact lp5 _ _ _ _ _ _ (kG_self _ hGg3.I hGg3.R) (or284 kor0) (kPre_zero kor0) (Nat.lt_succ_self _)
noncomputable def yw207_116 : kW := ([], [118, 130], [], [])
noncomputable def yw207_116_L12 : kW := ([], [118], [], [])
noncomputable def yw207_116_L79 : kW := ([], [130], [], [])
set_option maxRecDepth 100000 in
theorem ke207_116 {i : Nat → Int32} {a : Nat → List Int32} {q : Nat → List Int64} {r : Nat → Nat} (hI : kI i a q) (hr : kr r)  : km 1 207 [.ref 116] (ks i a q r) (kVI yw207_116 i a q r (fun v i1 a1 q1 r1 => (True) ∧ (((i 7448).toInt ≠ 0 → a1 118 = rBk (i 7449) (a 118) (a 131)) ∧ ((i 7448).toInt ≠ 0 → a1 130 = a 132) ∧ ((i 7448).toInt ≠ 0 → v = (a 132).getD (0 : Int32).toNatClampNeg 0) ∧ ((i 7448).toInt = 0 → a1 118 = a 118) ∧ ((i 7448).toInt = 0 → a1 130 = a 130) ∧ ((i 7448).toInt = 0 → v = -5)))) := by
  have hG := kG_self yw207_116 hI hr
  refine km_ofI (q := (mi_h207, mi_c207)) rfl (by decide) (Nat.le_of_ble_eq_true rfl) ?_
  intro P hP
  have fi_7448 : ((0 : Int) ≤ (i 7448).toInt) ∧ ((i 7448).toInt ≤ 1) := hG.I.1 7448
  refine ft_goL mi_k207 2 4 [(0, .ref 116)] [.int (i 7448)] (by rfl) ?_
  refine ft_ifS mi_k207 ((i 7448) != 0) 10 7 [] (by rfl) (fun c => ?_) (fun c => ?_)
  ·
    have c1 : (i 7448).toInt ≠ (0 : Int32).toInt := kd_ne c; clear c
    first | refine fo_goL mi_k207 fz207_10_2_12 [(1, .int 0), (0, .ref 116)] [] (by rfl) ?_ | refine fo_goL mi_k207 fz207_71_2_12 [(1, .int 0), (0, .ref 116)] [] (by rfl) ?_
    have lp2 : ∀ (nz : Nat) (i2 : Nat → Int32) (a2 : Nat → List Int32) (q2 : Nat → List Int64) (r2 : Nat → Nat) (l1_2 : Int32), kG yw207_116_L12 i a q r i2 a2 q2 r2 → (0 : Int) ≤ l1_2.toInt → kBk (i 7449) (a2 118) (a 118) (a 131) l1_2.toInt → ((31 - l1_2.toInt)).toNat < nz → ko 1 (mi_h207, mi_c207) P (12, [(1, .int l1_2), (0, .ref 116)], [], (0, 0), ks i2 a2 q2 r2) := by
      intro nz
      induction nz with
      | zero =>
        intro _ _ _ _ _ _ _ _ hm
        exact absurd hm (Nat.not_lt_zero _)
      | succ nz ih2 =>
        intro i2 a2 q2 r2 l1_2 hL2 p2_0 O2_0 hm2
        refine ft_goL mi_k207 2 15 [(1, .int l1_2), (0, .ref 116)] [.int 31, .int l1_2] (by rfl) ?_
        refine ft_ifS mi_k207 (decide (31 ≤ l1_2)) 77 18 [] (by rfl) (fun c => ?_) (fun c => ?_)
        ·
          have c3 : (31 : Int32).toInt ≤ l1_2.toInt := kd_le c; clear c
          have hG4 := kG_call hG hL2 (by decide +kernel)
          have qk5 : a2 118 = rBk (i 7449) (a 118) (a 131) := kBk_end O2_0 (hG4.I.2.1 118) (or271 c3 kor31)
          first | refine ft_goL mi_k207 2 79 [(1, .int 0), (0, .ref 116)] [] (by rfl) ?_
          have lp6 : ∀ (nz : Nat) (i6 : Nat → Int32) (a6 : Nat → List Int32) (q6 : Nat → List Int64) (r6 : Nat → Nat) (l1_6 : Int32), kG yw207_116_L79 i2 a2 q2 r2 i6 a6 q6 r6 → (0 : Int) ≤ l1_6.toInt → kPre (a6 130) (a 132) l1_6.toInt → ((5 - l1_6.toInt)).toNat < nz → ko 1 (mi_h207, mi_c207) P (79, [(1, .int l1_6), (0, .ref 116)], [], (0, 0), ks i6 a6 q6 r6) := by
            intro nz
            induction nz with
            | zero =>
              intro _ _ _ _ _ _ _ _ hm
              exact absurd hm (Nat.not_lt_zero _)
            | succ nz ih6 =>
              intro i6 a6 q6 r6 l1_6 hL6 p6_0 O6_0 hm6
              refine ft_goL mi_k207 2 81 [(1, .int l1_6), (0, .ref 116)] [.int 5, .int l1_6] (by rfl) ?_
              refine ft_ifS mi_k207 (decide (5 ≤ l1_6)) 102 84 [] (by rfl) (fun c => ?_) (fun c => ?_)
              ·
                have c7 : (5 : Int32).toInt ≤ l1_6.toInt := kd_le c; clear c
                have hG8 := kG_call hG4 hL6 (by decide +kernel)
                have qp9 : a6 130 = a 132 := kPre_end O6_0 (hG8.I.2.1 130) (hG.I.2.1 132) (or285 c7 kor5)
                refine ft_goS mi_k207 3 107 [.int 0, .ref 130] (by rfl) ?_
                refine ko_iald3 mi_k207.1 (n := 5) (c := 5) (ax := (0, 0, 0, 0, 0)) (mi_k207.2 _ _ (by rfl)) (by rfl) (ksG130 _ _ _ _) (hG8.I.2.1 130) rfl (or284 kor0) (or286 kor0) ?_
                exact ft_ret mi_k207 (by rfl) (hP ((a6 130).getD (0 : Int32).toNatClampNeg 0) _ _ _ _ hG8 ⟨trivial, ⟨(fun _ => (show a6 118 = rBk (i 7449) (a 118) (a 131) from (by first | rfl | (simp only [hL6.fa 118 rfl, qk5, sMn, sMx]; done) | (simp only [hL6.fa 118 rfl, qk5, sMn, sMx]; rfl)))), (fun _ => (show a6 130 = a 132 from (by first | rfl | (simp only [qp9, sMn, sMx]; done) | (simp only [qp9, sMn, sMx]; rfl)))), (fun _ => (show ((a6 130).getD (0 : Int32).toNatClampNeg 0) = (a 132).getD (0 : Int32).toNatClampNeg 0 from (by first | rfl | (simp only [qp9, sMn, sMx]; done) | (simp only [qp9, sMn, sMx]; rfl)))), (fun h => absurd h (or292 c1 fi_7448.1 kor0)), (fun h => absurd h (or292 c1 fi_7448.1 kor0)), (fun h => absurd h (or292 c1 fi_7448.1 kor0))⟩⟩)
              ·
                have c10 : l1_6.toInt < (5 : Int32).toInt := kd_leF c; clear c
                refine fo_goS mi_k207 fz207_84_6_94 [.int l1_6, .ref 132, .int l1_6, .ref 130] rfl ?_
                refine ko_iald3 mi_k207.1 (n := 5) (c := 5) (ax := (0, 0, 0, 0, 0)) (mi_k207.2 _ _ (by rfl)) (by rfl) (ksG132 _ _ _ _) (hL6.I.2.1 132) rfl (or0 p6_0) (or287 c10 kor5) ?_
                refine ko_iast3 mi_k207.1 (n := 5) (c := 5) (ax := (0, 0, 0, 0, 0)) (mi_k207.2 _ _ (by rfl)) (by rfl) (ksG130 _ _ _ _) (ksA130 _ _ _ _) (hL6.I.2.1 130) rfl (or0 p6_0) (or287 c10 kor5) ?_
                intro a11 ea11 fa11
                have hJ11 := kG_a3 hL6 130 rfl ea11 fa11 (kd_bd _)
                have s12 : (l1_6 + 1).toInt = l1_6.toInt + (1 : Int32).toInt := kd_add (or98 p6_0 kor1) (or288 c10 kor5 kor1)
                first | refine ft_goL mi_k207 2 79 [(1, .int (l1_6 + 1)), (0, .ref 116)] [] (by rfl) ?_
                exact ih6 _ _ _ _ _ hJ11 (or100 p6_0 s12 kor1) (kPre_step O6_0 (hL6.I.2.1 130) (or0 p6_0) (or289 c10 kor5) (or155 s12 kor1) ((hL6.fa 132 rfl).trans (hL2.fa 132 rfl)) ea11) (kj_meas (or290 s12 kor1) (or291 c10 kor5) hm6)
          exact lp6 _ _ _ _ _ _ (kG_self _ hG4.I hG4.R) (or284 kor0) (kPre_zero kor0) (Nat.lt_succ_self _)
        ·
          have c13 : l1_2.toInt < (31 : Int32).toInt := kd_leF c; clear c
          refine ft_goS mi_k207 2 21 [.int 8, .int l1_2] (by rfl) ?_
          refine ft_ifS mi_k207 (decide (8 ≤ l1_2)) 32 24 [] (by rfl) (fun c => ?_) (fun c => ?_)
          ·
            have c14 : (8 : Int32).toInt ≤ l1_2.toInt := kd_le c; clear c
            have fi2_7449 : ((0 : Int) ≤ (i2 7449).toInt) ∧ ((i2 7449).toInt ≤ 8) := hL2.I.1 7449
            have efi2_7449 : (i2 7449).toInt = (i 7449).toInt := hL2.ti 7449 rfl
            have s15 : (10 + (i2 7449)).toInt = (10 : Int32).toInt + (i2 7449).toInt := kd_add (or293 fi2_7449.1 kor10) (or294 fi2_7449.2 kor10)
            refine fo_goS mi_k207 fz207_32_5_40 [.int (10 + (i2 7449)), .int l1_2] rfl ?_
            refine ft_ifS mi_k207 (decide (l1_2 < (10 + (i2 7449)))) 53 43 [] (by rfl) (fun c => ?_) (fun c => ?_)
            ·
              have c16 : l1_2.toInt < (10 + (i2 7449)).toInt := kd_lt c; clear c
              first | refine fo_goL mi_k207 fz207_50_10_69 [(2, .int 0), (1, .int l1_2), (0, .ref 116)] [.int l1_2, .ref 131, .int l1_2, .ref 118] (by rfl) ?_ | refine fo_goL mi_k207 fz207_53_10_69 [(2, .int 0), (1, .int l1_2), (0, .ref 116)] [.int l1_2, .ref 131, .int l1_2, .ref 118] (by rfl) ?_
              refine ko_iald3 mi_k207.1 (n := 31) (c := 31) (ax := (0, 0, 0, 0, 0)) (mi_k207.2 _ _ (by rfl)) (by rfl) (ksG131 _ _ _ _) (hL2.I.2.1 131) rfl (or0 p2_0) (or274 c13 kor31) ?_
              have r17 : ((l1_2.toInt = 18 → (0 : Int) ≤ ((a2 131).getD l1_2.toNatClampNeg 0).toInt ∧ ((a2 131).getD l1_2.toNatClampNeg 0).toInt ≤ 5)) ∧ ((19 ≤ l1_2.toInt → l1_2.toInt ≤ 24 → (0 : Int) ≤ ((a2 131).getD l1_2.toNatClampNeg 0).toInt ∧ ((a2 131).getD l1_2.toNatClampNeg 0).toInt ≤ 7)) := kE_ncond (p := 131) hL2.I (by decide) (j := l1_2) (or0 p2_0)
              refine ko_iast3 mi_k207.1 (n := 31) (c := 31) (ax := (0, 0, 0, 0, 0)) (mi_k207.2 _ _ (by rfl)) (by rfl) (ksG118 _ _ _ _) (ksA118 _ _ _ _) (hL2.I.2.1 118) rfl (or0 p2_0) (or274 c13 kor31) ?_
              intro a18 ea18 fa18
              have hJ18 := kG_a3 hL2 118 rfl ea18 fa18 (kE_nset (p := 118) (by decide) (or0 p2_0) (or295 c16 fi2_7449.2 s15 kor10) (or296 c16 fi2_7449.2 s15 kor10))
              have s19 : (l1_2 + 1).toInt = l1_2.toInt + (1 : Int32).toInt := kd_add (or98 p2_0 kor1) (or279 c13 kor31 kor1)
              first | refine fo_goL mi_k207 fz207_10_2_12 [(1, .int (l1_2 + 1)), (2, .int 0), (0, .ref 116)] [] (by rfl) ?_ | refine fo_goL mi_k207 fz207_71_2_12 [(1, .int (l1_2 + 1)), (2, .int 0), (0, .ref 116)] [] (by rfl) ?_
              refine ko_perm [(1, .int (l1_2 + 1)), (0, .ref 116)] (List.forall_mem_cons.mpr ⟨(List.Mem.head _), (List.forall_mem_cons.mpr ⟨(List.Mem.tail _ (List.Mem.tail _ (List.Mem.head _))), (fun _ h => absurd h List.not_mem_nil)⟩)⟩) ?_
              exact ih2 _ _ _ _ _ hJ18 (or100 p2_0 s19 kor1) (kBk_step O2_0 (hL2.I.2.1 118) (or0 p2_0) (or274 c13 kor31) (or297 c14 c16 efi2_7449 s15 kor8 kor10) (or155 s19 kor1) (hL2.fa 131 rfl) ea18) (kj_meas (or282 s19 kor1) (or283 c13 kor31) hm2)
            ·
              have c20 : (10 + (i2 7449)).toInt ≤ l1_2.toInt := kd_ltF c; clear c
              refine ft_goS mi_k207 2 46 [.int 18, .int l1_2] (by rfl) ?_
              refine ft_ifS mi_k207 (decide (18 ≤ l1_2)) 53 49 [] (by rfl) (fun c => ?_) (fun c => ?_)
              ·
                have c21 : (18 : Int32).toInt ≤ l1_2.toInt := kd_le c; clear c
                first | refine fo_goL mi_k207 fz207_50_10_69 [(2, .int 0), (1, .int l1_2), (0, .ref 116)] [.int l1_2, .ref 131, .int l1_2, .ref 118] (by rfl) ?_ | refine fo_goL mi_k207 fz207_53_10_69 [(2, .int 0), (1, .int l1_2), (0, .ref 116)] [.int l1_2, .ref 131, .int l1_2, .ref 118] (by rfl) ?_
                refine ko_iald3 mi_k207.1 (n := 31) (c := 31) (ax := (0, 0, 0, 0, 0)) (mi_k207.2 _ _ (by rfl)) (by rfl) (ksG131 _ _ _ _) (hL2.I.2.1 131) rfl (or298 c21 kor18) (or274 c13 kor31) ?_
                have r22 : ((l1_2.toInt = 18 → (0 : Int) ≤ ((a2 131).getD l1_2.toNatClampNeg 0).toInt ∧ ((a2 131).getD l1_2.toNatClampNeg 0).toInt ≤ 5)) ∧ ((19 ≤ l1_2.toInt → l1_2.toInt ≤ 24 → (0 : Int) ≤ ((a2 131).getD l1_2.toNatClampNeg 0).toInt ∧ ((a2 131).getD l1_2.toNatClampNeg 0).toInt ≤ 7)) := kE_ncond (p := 131) hL2.I (by decide) (j := l1_2) (or298 c21 kor18)
                refine ko_iast3 mi_k207.1 (n := 31) (c := 31) (ax := (0, 0, 0, 0, 0)) (mi_k207.2 _ _ (by rfl)) (by rfl) (ksG118 _ _ _ _) (ksA118 _ _ _ _) (hL2.I.2.1 118) rfl (or298 c21 kor18) (or274 c13 kor31) ?_
                intro a23 ea23 fa23
                have hJ23 := kG_a3 hL2 118 rfl ea23 fa23 (kE_nset (p := 118) (by decide) (or298 c21 kor18) (or299 c21 r22.1 kor18) (or300 r22.2))
                have s24 : (l1_2 + 1).toInt = l1_2.toInt + (1 : Int32).toInt := kd_add (or301 c21 kor18 kor1) (or279 c13 kor31 kor1)
                first | refine fo_goL mi_k207 fz207_10_2_12 [(1, .int (l1_2 + 1)), (2, .int 0), (0, .ref 116)] [] (by rfl) ?_ | refine fo_goL mi_k207 fz207_71_2_12 [(1, .int (l1_2 + 1)), (2, .int 0), (0, .ref 116)] [] (by rfl) ?_
                refine ko_perm [(1, .int (l1_2 + 1)), (0, .ref 116)] (List.forall_mem_cons.mpr ⟨(List.Mem.head _), (List.forall_mem_cons.mpr ⟨(List.Mem.tail _ (List.Mem.tail _ (List.Mem.head _))), (fun _ h => absurd h List.not_mem_nil)⟩)⟩) ?_
                exact ih2 _ _ _ _ _ hJ23 (or302 c21 s24 kor18 kor1) (kBk_step O2_0 (hL2.I.2.1 118) (or298 c21 kor18) (or274 c13 kor31) (or303 c21 kor18) (or155 s24 kor1) (hL2.fa 131 rfl) ea23) (kj_meas (or282 s24 kor1) (or283 c13 kor31) hm2)
              ·
                have c25 : l1_2.toInt < (18 : Int32).toInt := kd_leF c; clear c
                have s26 : (l1_2 + 1).toInt = l1_2.toInt + (1 : Int32).toInt := kd_add (or304 c20 fi2_7449.1 s15 kor10 kor1) (or279 c13 kor31 kor1)
                first | refine fo_goL mi_k207 fz207_49_7_12 [(1, .int (l1_2 + 1)), (2, .int 1), (0, .ref 116)] [] (by rfl) ?_ | refine ft_goL mi_k207 7 12 [(1, .int (l1_2 + 1)), (2, .int 1), (0, .ref 116)] [] (by rfl) ?_
                refine ko_perm [(1, .int (l1_2 + 1)), (0, .ref 116)] (List.forall_mem_cons.mpr ⟨(List.Mem.head _), (List.forall_mem_cons.mpr ⟨(List.Mem.tail _ (List.Mem.tail _ (List.Mem.head _))), (fun _ h => absurd h List.not_mem_nil)⟩)⟩) ?_
                exact ih2 _ _ _ _ _ hL2 (or305 c20 fi2_7449.1 s15 s26 kor10 kor1) (kBk_skip O2_0 (or306 c20 fi2_7449.1 s15 kor10) (or307 c20 c25 efi2_7449 s15 kor18 kor10) (or155 s26 kor1) rfl) (kj_meas (or282 s26 kor1) (or283 c13 kor31) hm2)
          ·
            have c27 : l1_2.toInt < (8 : Int32).toInt := kd_leF c; clear c
            have fi2_7449 : ((0 : Int) ≤ (i2 7449).toInt) ∧ ((i2 7449).toInt ≤ 8) := hL2.I.1 7449
            have efi2_7449 : (i2 7449).toInt = (i 7449).toInt := hL2.ti 7449 rfl
            refine ft_goS mi_k207 3 29 [.int (i2 7449), .int l1_2] (by rfl) ?_
            refine ft_ifS mi_k207 (decide ((i2 7449) ≤ l1_2)) 49 32 [] (by rfl) (fun c => ?_) (fun c => ?_)
            ·
              have c28 : (i2 7449).toInt ≤ l1_2.toInt := kd_le c; clear c
              have s29 : (l1_2 + 1).toInt = l1_2.toInt + (1 : Int32).toInt := kd_add (or98 p2_0 kor1) (or279 c13 kor31 kor1)
              first | refine fo_goL mi_k207 fz207_49_7_12 [(1, .int (l1_2 + 1)), (2, .int 1), (0, .ref 116)] [] (by rfl) ?_ | refine ft_goL mi_k207 7 12 [(1, .int (l1_2 + 1)), (2, .int 1), (0, .ref 116)] [] (by rfl) ?_
              refine ko_perm [(1, .int (l1_2 + 1)), (0, .ref 116)] (List.forall_mem_cons.mpr ⟨(List.Mem.head _), (List.forall_mem_cons.mpr ⟨(List.Mem.tail _ (List.Mem.tail _ (List.Mem.head _))), (fun _ h => absurd h List.not_mem_nil)⟩)⟩) ?_
              exact ih2 _ _ _ _ _ hL2 (or100 p2_0 s29 kor1) (kBk_skip O2_0 (or0 p2_0) (or308 c27 c28 efi2_7449 kor8) (or155 s29 kor1) rfl) (kj_meas (or282 s29 kor1) (or283 c13 kor31) hm2)
            ·
              have c30 : l1_2.toInt < (i2 7449).toInt := kd_leF c; clear c
              have s31 : (10 + (i2 7449)).toInt = (10 : Int32).toInt + (i2 7449).toInt := kd_add (or293 fi2_7449.1 kor10) (or294 fi2_7449.2 kor10)
              refine fo_goS mi_k207 fz207_32_5_40 [.int (10 + (i2 7449)), .int l1_2] rfl ?_
              refine ft_ifS mi_k207 (decide (l1_2 < (10 + (i2 7449)))) 53 43 [] (by rfl) (fun c => ?_) (fun c => ?_)
              ·
                have c32 : l1_2.toInt < (10 + (i2 7449)).toInt := kd_lt c; clear c
                first | refine fo_goL mi_k207 fz207_50_10_69 [(2, .int 0), (1, .int l1_2), (0, .ref 116)] [.int l1_2, .ref 131, .int l1_2, .ref 118] (by rfl) ?_ | refine fo_goL mi_k207 fz207_53_10_69 [(2, .int 0), (1, .int l1_2), (0, .ref 116)] [.int l1_2, .ref 131, .int l1_2, .ref 118] (by rfl) ?_
                refine ko_iald3 mi_k207.1 (n := 31) (c := 31) (ax := (0, 0, 0, 0, 0)) (mi_k207.2 _ _ (by rfl)) (by rfl) (ksG131 _ _ _ _) (hL2.I.2.1 131) rfl (or0 p2_0) (or274 c13 kor31) ?_
                have r33 : ((l1_2.toInt = 18 → (0 : Int) ≤ ((a2 131).getD l1_2.toNatClampNeg 0).toInt ∧ ((a2 131).getD l1_2.toNatClampNeg 0).toInt ≤ 5)) ∧ ((19 ≤ l1_2.toInt → l1_2.toInt ≤ 24 → (0 : Int) ≤ ((a2 131).getD l1_2.toNatClampNeg 0).toInt ∧ ((a2 131).getD l1_2.toNatClampNeg 0).toInt ≤ 7)) := kE_ncond (p := 131) hL2.I (by decide) (j := l1_2) (or0 p2_0)
                refine ko_iast3 mi_k207.1 (n := 31) (c := 31) (ax := (0, 0, 0, 0, 0)) (mi_k207.2 _ _ (by rfl)) (by rfl) (ksG118 _ _ _ _) (ksA118 _ _ _ _) (hL2.I.2.1 118) rfl (or0 p2_0) (or274 c13 kor31) ?_
                intro a34 ea34 fa34
                have hJ34 := kG_a3 hL2 118 rfl ea34 fa34 (kE_nset (p := 118) (by decide) (or0 p2_0) (or309 c27 kor8) (or310 c27 kor8))
                have s35 : (l1_2 + 1).toInt = l1_2.toInt + (1 : Int32).toInt := kd_add (or98 p2_0 kor1) (or279 c13 kor31 kor1)
                first | refine fo_goL mi_k207 fz207_10_2_12 [(1, .int (l1_2 + 1)), (2, .int 0), (0, .ref 116)] [] (by rfl) ?_ | refine fo_goL mi_k207 fz207_71_2_12 [(1, .int (l1_2 + 1)), (2, .int 0), (0, .ref 116)] [] (by rfl) ?_
                refine ko_perm [(1, .int (l1_2 + 1)), (0, .ref 116)] (List.forall_mem_cons.mpr ⟨(List.Mem.head _), (List.forall_mem_cons.mpr ⟨(List.Mem.tail _ (List.Mem.tail _ (List.Mem.head _))), (fun _ h => absurd h List.not_mem_nil)⟩)⟩) ?_
                exact ih2 _ _ _ _ _ hJ34 (or100 p2_0 s35 kor1) (kBk_step O2_0 (hL2.I.2.1 118) (or0 p2_0) (or274 c13 kor31) (or311 c30 efi2_7449) (or155 s35 kor1) (hL2.fa 131 rfl) ea34) (kj_meas (or282 s35 kor1) (or283 c13 kor31) hm2)
              ·
                have c36 : (10 + (i2 7449)).toInt ≤ l1_2.toInt := kd_ltF c; clear c
                exact (or312 c30 c36 s31 kor10).elim
    exact lp2 _ _ _ _ _ _ (kG_self _ hG.I hG.R) (or284 kor0) (kBk_zero rfl kor0) (Nat.lt_succ_self _)
  ·
    have c37 : (i 7448).toInt = (0 : Int32).toInt := kd_neF c; clear c
    refine ft_goS mi_k207 1 9 [.int (-5)] (by rfl) ?_
    exact ft_ret mi_k207 (by rfl) (hP (-5) _ _ _ _ hG ⟨trivial, ⟨(fun h => absurd h (or313 c37 fi_7448.1 kor0)), (fun h => absurd h (or313 c37 fi_7448.1 kor0)), (fun h => absurd h (or313 c37 fi_7448.1 kor0)), (fun _ => (show a 118 = a 118 from rfl)), (fun _ => (show a 130 = a 130 from rfl)), (fun _ => (show ((-5) : Int32) = -5 from (by first | rfl | (simp only [sMn, sMx]; done) | (simp only [sMn, sMx]; rfl))))⟩⟩)
set_option maxRecDepth 100000 in
theorem ke87_0 {i : Nat → Int32} {a : Nat → List Int32} {q : Nat → List Int64} {r : Nat → Nat} (hI : kI i a q) (hr : kr r) (x1 : Int32) (x2 : Int32) : km 3 87 [.ref 0, .int x1, .int x2] (ks i a q r) (kPI (ks i a q r) (fun v => (True) ∧ ((¬ (((0 : Int) ≤ x1.toInt) ∧ ((0 : Int) ≤ x2.toInt) ∧ (x2.toInt ≤ 1)) → v = -1) ∧ (((0 : Int) ≤ x1.toInt) ∧ ((0 : Int) ≤ x2.toInt) ∧ (x2.toInt ≤ 1) ∧ ((i 450).toInt ≤ x1.toInt) → v = -2) ∧ (((0 : Int) ≤ x1.toInt) ∧ ((0 : Int) ≤ x2.toInt) ∧ (x2.toInt ≤ 1) ∧ (x2.toInt = 0) ∧ (x1.toInt < (i 450).toInt) → v = (a 8).getD x1.toNatClampNeg 0) ∧ (((0 : Int) ≤ x1.toInt) ∧ ((0 : Int) ≤ x2.toInt) ∧ (x2.toInt ≤ 1) ∧ (x2.toInt = 1) ∧ (x1.toInt < (i 450).toInt) → v = (a 9).getD x1.toNatClampNeg 0)))) := by
  have hG := kG_self kW0 hI hr
  refine km_ofPI (q := (mi_h87, mi_c87)) rfl (by decide) (Nat.le_of_ble_eq_true rfl) ?_
  intro P hP
  refine ft_goL mi_k87 1 1 [(0, .ref 0), (1, .int x1), (2, .int x2)] [.int x1] (by rfl) ?_
  refine ft_ifS mi_k87 (decide (x1 < 0)) 13 4 [] (by rfl) (fun c => ?_) (fun c => ?_)
  ·
    have c1 : x1.toInt < (0 : Int32).toInt := kd_lt c; clear c
    refine ft_goS mi_k87 1 14 [.int (-1)] (by rfl) ?_
    exact ft_ret mi_k87 (by rfl) (hP (-1) ⟨trivial, ⟨(fun _ => (show ((-1) : Int32) = -1 from (by first | rfl | (simp only [sMn, sMx]; done) | (simp only [sMn, sMx]; rfl)))), (fun h => absurd h (or314 c1 kor0)), (fun h => absurd h (or315 c1 kor0)), (fun h => absurd h (or316 c1 kor0))⟩⟩)
  ·
    have c2 : (0 : Int32).toInt ≤ x1.toInt := kd_ltF c; clear c
    refine ft_goS mi_k87 3 7 [.int 1, .int 0, .int x2] (by rfl) ?_
    refine ko_callPI mi_k87.1 (pc := 7) (ls := [(0, .ref 0), (1, .int x1), (2, .int x2)]) (st := [.int 1, .int 0, .int x2]) (h := ks i a q r) (i := (.invokestatic 74, 3, 120, 0, 9, 0, 152)) (mi_k87.2 _ _ (by rfl)) (ft_invS mi_pq120 (by rfl)) (cy := mi_c120) mi_pq120 rfl (kc120 hG.I hG.R x2 0 1) (by decide) ?_
    intro vg3 hg3
    rcases hg3 with ⟨eg3, hg3⟩ | ⟨eg3, hg3⟩
    ·
      subst eg3
      have z4 : ((0 : Int32).toInt ≤ x2.toInt) ∧ (x2.toInt ≤ (1 : Int32).toInt) := hg3
      have fi_450 : ((0 : Int) ≤ (i 450).toInt) ∧ ((i 450).toInt ≤ 5) := hG.I.1 450
      refine fo_goS mi_k87 fz87_10_6_26 [.int (i 450), .int x1] rfl ?_
      refine ft_ifS mi_k87 (decide (x1 < (i 450))) 32 29 [] (by rfl) (fun c => ?_) (fun c => ?_)
      ·
        have c5 : x1.toInt < (i 450).toInt := kd_lt c; clear c
        refine ft_goS mi_k87 1 33 [.int x2] (by rfl) ?_
        refine ft_ifS mi_k87 (x2 != 0) 51 36 [] (by rfl) (fun c => ?_) (fun c => ?_)
        ·
          have c6 : x2.toInt ≠ (0 : Int32).toInt := kd_ne c; clear c
          refine fo_goS mi_k87 fz87_51_5_62 [.int x1, .ref 9] rfl ?_
          refine ko_iald3 mi_k87.1 (n := 5) (c := 5) (ax := (0, 0, 0, 0, 0)) (mi_k87.2 _ _ (by rfl)) (by rfl) (ksG9 _ _ _ _) (hG.I.2.1 9) rfl (or317 c2 kor0) (or318 c5 fi_450.2) ?_
          exact ft_ret mi_k87 (by rfl) (hP ((a 9).getD x1.toNatClampNeg 0) ⟨trivial, ⟨(fun h => absurd (or319 c2 z4.1 z4.2 kor0 kor1) h), (fun h => absurd h (or320 c5)), (fun h => absurd h (or321 c6 z4.1 kor0)), (fun _ => (show ((a 9).getD x1.toNatClampNeg 0) = (a 9).getD x1.toNatClampNeg 0 from (by first | rfl | (simp only [sMn, sMx]; done) | (simp only [sMn, sMx]; rfl))))⟩⟩)
        ·
          have c7 : x2.toInt = (0 : Int32).toInt := kd_neF c; clear c
          refine fo_goS mi_k87 fz87_36_5_47 [.int x1, .ref 8] rfl ?_
          refine ko_iald3 mi_k87.1 (n := 5) (c := 5) (ax := (0, 0, 0, 0, 0)) (mi_k87.2 _ _ (by rfl)) (by rfl) (ksG8 _ _ _ _) (hG.I.2.1 8) rfl (or317 c2 kor0) (or318 c5 fi_450.2) ?_
          first | refine ft_goS mi_k87 1 63 [.int ((a 8).getD x1.toNatClampNeg 0)] (by rfl) ?_
          exact ft_ret mi_k87 (by rfl) (hP ((a 8).getD x1.toNatClampNeg 0) ⟨trivial, ⟨(fun h => absurd (or319 c2 z4.1 z4.2 kor0 kor1) h), (fun h => absurd h (or320 c5)), (fun _ => (show ((a 8).getD x1.toNatClampNeg 0) = (a 8).getD x1.toNatClampNeg 0 from (by first | rfl | (simp only [sMn, sMx]; done) | (simp only [sMn, sMx]; rfl)))), (fun h => absurd h (or322 c7 kor0))⟩⟩)
      ·
        have c8 : (i 450).toInt ≤ x1.toInt := kd_ltF c; clear c
        refine ft_goS mi_k87 1 31 [.int (-2)] (by rfl) ?_
        exact ft_ret mi_k87 (by rfl) (hP (-2) ⟨trivial, ⟨(fun h => absurd (or319 c2 z4.1 z4.2 kor0 kor1) h), (fun _ => (show ((-2) : Int32) = -2 from (by first | rfl | (simp only [sMn, sMx]; done) | (simp only [sMn, sMx]; rfl)))), (fun h => absurd h (or323 c8)), (fun h => absurd h (or324 c8))⟩⟩)
    ·
      subst eg3
      have z9 : ¬ (((0 : Int32).toInt ≤ x2.toInt) ∧ (x2.toInt ≤ (1 : Int32).toInt)) := hg3
      first | refine ft_goS mi_k87 2 14 [.int (-1)] (by rfl) ?_
      exact ft_ret mi_k87 (by rfl) (hP (-1) ⟨trivial, ⟨(fun _ => (show ((-1) : Int32) = -1 from (by first | rfl | (simp only [sMn, sMx]; done) | (simp only [sMn, sMx]; rfl)))), (fun h => absurd h (or325 z9 kor0 kor1)), (fun h => absurd h (or326 z9 kor0 kor1)), (fun h => absurd h (or327 z9 kor0 kor1))⟩⟩)
set_option maxRecDepth 100000 in
theorem ke164_116 {i : Nat → Int32} {a : Nat → List Int32} {q : Nat → List Int64} {r : Nat → Nat} (hI : kI i a q) (hr : kr r) (x1 : Int32) (x2 : Int32) : km 3 164 [.ref 116, .int x1, .int x2] (ks i a q r) (kPI (ks i a q r) (fun v => (True) ∧ ((¬ (((0 : Int) ≤ x1.toInt) ∧ ((0 : Int) ≤ x2.toInt) ∧ (x2.toInt ≤ 1)) → v = -1) ∧ (((0 : Int) ≤ x1.toInt) ∧ ((0 : Int) ≤ x2.toInt) ∧ (x2.toInt ≤ 1) ∧ (((a 118).getD (18 : Int32).toNatClampNeg 0).toInt ≤ x1.toInt) → v = -2) ∧ (((0 : Int) ≤ x1.toInt) ∧ ((0 : Int) ≤ x2.toInt) ∧ (x2.toInt ≤ 1) ∧ (x2.toInt = 0) ∧ (x1.toInt < ((a 118).getD (18 : Int32).toNatClampNeg 0).toInt) → v = (a 118).getD (19 + 6 * x2 + x1).toNatClampNeg 0) ∧ (((0 : Int) ≤ x1.toInt) ∧ ((0 : Int) ≤ x2.toInt) ∧ (x2.toInt ≤ 1) ∧ (x2.toInt = 1) ∧ (x1.toInt < ((a 118).getD (18 : Int32).toNatClampNeg 0).toInt) → v = (a 118).getD (19 + 6 * x2 + x1).toNatClampNeg 0)))) := by
  have hG := kG_self kW0 hI hr
  refine km_ofPI (q := (mi_h164, mi_c164)) rfl (by decide) (Nat.le_of_ble_eq_true rfl) ?_
  intro P hP
  refine ft_goL mi_k164 1 1 [(0, .ref 116), (1, .int x1), (2, .int x2)] [.int x1] (by rfl) ?_
  refine ft_ifS mi_k164 (decide (x1 < 0)) 13 4 [] (by rfl) (fun c => ?_) (fun c => ?_)
  ·
    have c1 : x1.toInt < (0 : Int32).toInt := kd_lt c; clear c
    refine ft_goS mi_k164 1 14 [.int (-1)] (by rfl) ?_
    have r2 : ((0 : Int) ≤ ((a 118).getD (18 : Int32).toNatClampNeg 0).toInt) ∧ (((a 118).getD (18 : Int32).toNatClampNeg 0).toInt ≤ 5) := kE_n18 (p := 118) hG.I (by decide)
    exact ft_ret mi_k164 (by rfl) (hP (-1) ⟨trivial, ⟨(fun _ => (show ((-1) : Int32) = -1 from (by first | rfl | (simp only [sMn, sMx]; done) | (simp only [sMn, sMx]; rfl)))), (fun h => absurd h (or314 c1 kor0)), (fun h => absurd h (or315 c1 kor0)), (fun h => absurd h (or316 c1 kor0))⟩⟩)
  ·
    have c3 : (0 : Int32).toInt ≤ x1.toInt := kd_ltF c; clear c
    refine ft_goS mi_k164 3 7 [.int 1, .int 0, .int x2] (by rfl) ?_
    refine ko_callPI mi_k164.1 (pc := 7) (ls := [(0, .ref 116), (1, .int x1), (2, .int x2)]) (st := [.int 1, .int 0, .int x2]) (h := ks i a q r) (i := (.invokestatic 119, 3, 131, 0, 9, 0, 379)) (mi_k164.2 _ _ (by rfl)) (ft_invS mi_pq131 (by rfl)) (cy := mi_c131) mi_pq131 rfl (kc131 hG.I hG.R x2 0 1) (by decide) ?_
    intro vg4 hg4
    rcases hg4 with ⟨eg4, hg4⟩ | ⟨eg4, hg4⟩
    ·
      subst eg4
      have z5 : ((0 : Int32).toInt ≤ x2.toInt) ∧ (x2.toInt ≤ (1 : Int32).toInt) := hg4
      refine fo_goS mi_k164 fz164_10_5_22 [.int 18, .ref 118, .int x1] rfl ?_
      refine ko_iald3 mi_k164.1 (n := 31) (c := 31) (ax := (0, 0, 0, 0, 0)) (mi_k164.2 _ _ (by rfl)) (by rfl) (ksG118 _ _ _ _) (hG.I.2.1 118) rfl (or328 kor18) (or329 kor18) ?_
      have r6 : ((0 : Int) ≤ ((a 118).getD (18 : Int32).toNatClampNeg 0).toInt) ∧ (((a 118).getD (18 : Int32).toNatClampNeg 0).toInt ≤ 5) := kE_n18 (p := 118) hG.I (by decide)
      refine ft_ifS mi_k164 (decide (x1 < ((a 118).getD (18 : Int32).toNatClampNeg 0))) 31 26 [] (by rfl) (fun c => ?_) (fun c => ?_)
      ·
        have c7 : x1.toInt < ((a 118).getD (18 : Int32).toNatClampNeg 0).toInt := kd_lt c; clear c
        have s8 : (6 * x2).toInt = 6 * x2.toInt := kd_cmul 6 kor6 (or330 z5.1 kor0) (or331 z5.2 kor1)
        have s9 : (19 + (6 * x2)).toInt = (19 : Int32).toInt + (6 * x2).toInt := kd_add (or332 s8 z5.1 kor0 kor19) (or333 s8 z5.2 kor1 kor19)
        have s10 : ((19 + (6 * x2)) + x1).toInt = (19 + (6 * x2)).toInt + x1.toInt := kd_add (or334 c3 s8 s9 z5.1 kor0 kor19) (or335 c7 r6.2 s8 s9 z5.2 kor19 kor1)
        refine fo_goS mi_k164 fz164_31_9_44 [.int ((19 + (6 * x2)) + x1), .ref 118] rfl ?_
        refine ko_iald3 mi_k164.1 (n := 31) (c := 31) (ax := (0, 0, 0, 0, 0)) (mi_k164.2 _ _ (by rfl)) (by rfl) (ksG118 _ _ _ _) (hG.I.2.1 118) rfl (or336 c3 s10 s8 s9 z5.1 kor0 kor19) (or337 c7 r6.2 s10 s8 s9 z5.2 kor19 kor1) ?_
        have r11 : ((((19 + (6 * x2)) + x1).toInt = 18 → (0 : Int) ≤ ((a 118).getD ((19 + (6 * x2)) + x1).toNatClampNeg 0).toInt ∧ ((a 118).getD ((19 + (6 * x2)) + x1).toNatClampNeg 0).toInt ≤ 5)) ∧ ((19 ≤ ((19 + (6 * x2)) + x1).toInt → ((19 + (6 * x2)) + x1).toInt ≤ 24 → (0 : Int) ≤ ((a 118).getD ((19 + (6 * x2)) + x1).toNatClampNeg 0).toInt ∧ ((a 118).getD ((19 + (6 * x2)) + x1).toNatClampNeg 0).toInt ≤ 7)) := kE_ncond (p := 118) hG.I (by decide) (j := ((19 + (6 * x2)) + x1)) (or336 c3 s10 s8 s9 z5.1 kor0 kor19)
        exact ft_ret mi_k164 (by rfl) (hP ((a 118).getD ((19 + (6 * x2)) + x1).toNatClampNeg 0) ⟨trivial, ⟨(fun h => absurd (or319 c3 z5.1 z5.2 kor0 kor1) h), (fun h => absurd h (or320 c7)), (fun hc => (show ((a 118).getD ((19 + (6 * x2)) + x1).toNatClampNeg 0) = (a 118).getD (19 + 6 * x2 + x1).toNatClampNeg 0 from (by first | rfl | (simp only [sMn, sMx]; done) | (simp only [sMn, sMx]; rfl)))), (fun hc => (show ((a 118).getD ((19 + (6 * x2)) + x1).toNatClampNeg 0) = (a 118).getD (19 + 6 * x2 + x1).toNatClampNeg 0 from (by first | rfl | (simp only [sMn, sMx]; done) | (simp only [sMn, sMx]; rfl))))⟩⟩)
      ·
        have c12 : ((a 118).getD (18 : Int32).toNatClampNeg 0).toInt ≤ x1.toInt := kd_ltF c; clear c
        first | refine ft_goS mi_k164 2 45 [.int (-2)] (by rfl) ?_
        exact ft_ret mi_k164 (by rfl) (hP (-2) ⟨trivial, ⟨(fun h => absurd (or319 c3 z5.1 z5.2 kor0 kor1) h), (fun _ => (show ((-2) : Int32) = -2 from (by first | rfl | (simp only [sMn, sMx]; done) | (simp only [sMn, sMx]; rfl)))), (fun h => absurd h (or323 c12)), (fun h => absurd h (or324 c12))⟩⟩)
    ·
      subst eg4
      have z13 : ¬ (((0 : Int32).toInt ≤ x2.toInt) ∧ (x2.toInt ≤ (1 : Int32).toInt)) := hg4
      first | refine ft_goS mi_k164 2 14 [.int (-1)] (by rfl) ?_
      have r14 : ((0 : Int) ≤ ((a 118).getD (18 : Int32).toNatClampNeg 0).toInt) ∧ (((a 118).getD (18 : Int32).toNatClampNeg 0).toInt ≤ 5) := kE_n18 (p := 118) hG.I (by decide)
      exact ft_ret mi_k164 (by rfl) (hP (-1) ⟨trivial, ⟨(fun _ => (show ((-1) : Int32) = -1 from (by first | rfl | (simp only [sMn, sMx]; done) | (simp only [sMn, sMx]; rfl)))), (fun h => absurd h (or325 z13 kor0 kor1)), (fun h => absurd h (or326 z13 kor0 kor1)), (fun h => absurd h (or327 z13 kor0 kor1))⟩⟩)
set_option maxRecDepth 100000 in
theorem ke105_0 {i : Nat → Int32} {a : Nat → List Int32} {q : Nat → List Int64} {r : Nat → Nat} (hI : kI i a q) (hr : kr r) (x1 : Int32) : km 3 105 [.ref 0, .int x1] (ks i a q r) (kPI (ks i a q r) (fun v => (True) ∧ ((((0 : Int) ≤ x1.toInt) ∧ (x1.toInt ≤ 4) → v = (a 14).getD x1.toNatClampNeg 0) ∧ (¬ (((0 : Int) ≤ x1.toInt) ∧ (x1.toInt ≤ 4)) → v = -1)))) := by
  have hG := kG_self kW0 hI hr
  refine km_ofPI (q := (mi_h105, mi_c105)) rfl (by decide) (Nat.le_of_ble_eq_true rfl) ?_
  intro P hP
  refine ft_goL mi_k105 3 3 [(0, .ref 0), (1, .int x1)] [.int 4, .int 0, .int x1] (by rfl) ?_
  refine ko_callPI mi_k105.1 (pc := 3) (ls := [(0, .ref 0), (1, .int x1)]) (st := [.int 4, .int 0, .int x1]) (h := ks i a q r) (i := (.invokestatic 74, 3, 120, 0, 9, 0, 152)) (mi_k105.2 _ _ (by rfl)) (ft_invS mi_pq120 (by rfl)) (cy := mi_c120) mi_pq120 rfl (kc120 hG.I hG.R x1 0 4) (by decide) ?_
  intro vg1 hg1
  rcases hg1 with ⟨eg1, hg1⟩ | ⟨eg1, hg1⟩
  ·
    subst eg1
    have z2 : ((0 : Int32).toInt ≤ x1.toInt) ∧ (x1.toInt ≤ (4 : Int32).toInt) := hg1
    refine fo_goS mi_k105 fz105_6_5_17 [.int x1, .ref 14] rfl ?_
    refine ko_iald3 mi_k105.1 (n := 5) (c := 5) (ax := (0, 0, 0, 0, 0)) (mi_k105.2 _ _ (by rfl)) (by rfl) (ksG14 _ _ _ _) (hG.I.2.1 14) rfl (or317 z2.1 kor0) (or338 z2.2 kor4) ?_
    first | refine ft_goS mi_k105 1 22 [.int ((a 14).getD x1.toNatClampNeg 0)] (by rfl) ?_
    exact ft_ret mi_k105 (by rfl) (hP ((a 14).getD x1.toNatClampNeg 0) ⟨trivial, ⟨(fun _ => (show ((a 14).getD x1.toNatClampNeg 0) = (a 14).getD x1.toNatClampNeg 0 from (by first | rfl | (simp only [sMn, sMx]; done) | (simp only [sMn, sMx]; rfl)))), (fun h => absurd (or339 z2.1 z2.2 kor0 kor4) h)⟩⟩)
  ·
    subst eg1
    have z3 : ¬ (((0 : Int32).toInt ≤ x1.toInt) ∧ (x1.toInt ≤ (4 : Int32).toInt)) := hg1
    first | refine ft_goS mi_k105 2 22 [.int (-1)] (by rfl) ?_
    exact ft_ret mi_k105 (by rfl) (hP (-1) ⟨trivial, ⟨(fun h => absurd h (or340 z3 kor0 kor4)), (fun _ => (show ((-1) : Int32) = -1 from (by first | rfl | (simp only [sMn, sMx]; done) | (simp only [sMn, sMx]; rfl))))⟩⟩)
set_option maxRecDepth 100000 in
theorem ke205_116 {i : Nat → Int32} {a : Nat → List Int32} {q : Nat → List Int64} {r : Nat → Nat} (hI : kI i a q) (hr : kr r) (x1 : Int32) : km 3 205 [.ref 116, .int x1] (ks i a q r) (kPI (ks i a q r) (fun v => (True) ∧ ((((0 : Int) ≤ x1.toInt) ∧ (x1.toInt ≤ 4) → v = (a 130).getD x1.toNatClampNeg 0) ∧ (¬ (((0 : Int) ≤ x1.toInt) ∧ (x1.toInt ≤ 4)) → v = -1)))) := by
  have hG := kG_self kW0 hI hr
  refine km_ofPI (q := (mi_h205, mi_c205)) rfl (by decide) (Nat.le_of_ble_eq_true rfl) ?_
  intro P hP
  refine ft_goL mi_k205 3 3 [(0, .ref 116), (1, .int x1)] [.int 4, .int 0, .int x1] (by rfl) ?_
  refine ko_callPI mi_k205.1 (pc := 3) (ls := [(0, .ref 116), (1, .int x1)]) (st := [.int 4, .int 0, .int x1]) (h := ks i a q r) (i := (.invokestatic 119, 3, 131, 0, 9, 0, 379)) (mi_k205.2 _ _ (by rfl)) (ft_invS mi_pq131 (by rfl)) (cy := mi_c131) mi_pq131 rfl (kc131 hG.I hG.R x1 0 4) (by decide) ?_
  intro vg1 hg1
  rcases hg1 with ⟨eg1, hg1⟩ | ⟨eg1, hg1⟩
  ·
    subst eg1
    have z2 : ((0 : Int32).toInt ≤ x1.toInt) ∧ (x1.toInt ≤ (4 : Int32).toInt) := hg1
    refine ft_goS mi_k205 4 14 [.int x1, .ref 130] (by rfl) ?_
    refine ko_iald3 mi_k205.1 (n := 5) (c := 5) (ax := (0, 0, 0, 0, 0)) (mi_k205.2 _ _ (by rfl)) (by rfl) (ksG130 _ _ _ _) (hG.I.2.1 130) rfl (or317 z2.1 kor0) (or338 z2.2 kor4) ?_
    first | refine ft_goS mi_k205 1 19 [.int ((a 130).getD x1.toNatClampNeg 0)] (by rfl) ?_
    exact ft_ret mi_k205 (by rfl) (hP ((a 130).getD x1.toNatClampNeg 0) ⟨trivial, ⟨(fun _ => (show ((a 130).getD x1.toNatClampNeg 0) = (a 130).getD x1.toNatClampNeg 0 from (by first | rfl | (simp only [sMn, sMx]; done) | (simp only [sMn, sMx]; rfl)))), (fun h => absurd (or339 z2.1 z2.2 kor0 kor4) h)⟩⟩)
  ·
    subst eg1
    have z3 : ¬ (((0 : Int32).toInt ≤ x1.toInt) ∧ (x1.toInt ≤ (4 : Int32).toInt)) := hg1
    first | refine ft_goS mi_k205 2 19 [.int (-1)] (by rfl) ?_
    exact ft_ret mi_k205 (by rfl) (hP (-1) ⟨trivial, ⟨(fun h => absurd h (or340 z3 kor0 kor4)), (fun _ => (show ((-1) : Int32) = -1 from (by first | rfl | (simp only [sMn, sMx]; done) | (simp only [sMn, sMx]; rfl))))⟩⟩)
noncomputable def yw3_31_7 : kW := ([1986], [32, 33], [], [])
set_option maxRecDepth 100000 in
theorem ke3_31_7 {i : Nat → Int32} {a : Nat → List Int32} {q : Nat → List Int64} {r : Nat → Nat} (hI : kI i a q) (hr : kr r)  : km 1 3 [.ref 31, .ref 7] (ks i a q r) (kVN yw3_31_7 i a q r (fun i1 a1 q1 r1 => (True) ∧ (a1 32 = mi_cpy (a 8) (a 32) (0 : Int32).toNatClampNeg (0 : Int32).toNatClampNeg (5 : Int32).toNatClampNeg ∧ a1 33 = mi_cpy (a 9) (a 33) (0 : Int32).toNatClampNeg (0 : Int32).toNatClampNeg (5 : Int32).toNatClampNeg ∧ i1 1986 = i 450))) := by
  have hG := kG_self yw3_31_7 hI hr
  refine km_ofN (q := (mi_h3, mi_c3)) rfl (by decide) (Nat.le_of_ble_eq_true rfl) ?_
  intro P hP
  refine fo_goL mi_k3 fz3_0_7_11 [(0, .ref 31), (1, .ref 7)] [.int 5, .int 0, .ref 32, .int 0, .ref 8] rfl ?_
  refine ko_copyI3 mi_k3.1 (n := 5) (c := 5) (m := 5) (b := 5) (mi_k3.2 _ _ (by rfl)) (by rfl) (by rfl) (by rfl) (ksG8 _ _ _ _) (ksG32 _ _ _ _) (ksA32 _ _ _ _) (hG.I.2.1 8) rfl (hG.I.2.1 32) rfl (or373 kor5) (or284 kor0) (or284 kor0) (or374 kor0 kor5) (or374 kor0 kor5) ?_
  intro a2 ea2 fa2
  have hJ2 := kG_al3 hG 32 rfl ea2 fa2 (kcpy_len2 (n := 5) (c := 5) (m := 5) (b := 5) (sp := 0) (dp := 0) (n1 := 5) (hG.I.2.1 8) rfl (hG.I.2.1 32) rfl (or373 kor5) (or284 kor0) (or284 kor0) (or374 kor0 kor5) (or374 kor0 kor5)) (fun _ => kd_bd _)
  refine fo_goS mi_k3 fz3_14_7_25 [.int 5, .int 0, .ref 33, .int 0, .ref 9] rfl ?_
  refine ko_copyI3 mi_k3.1 (n := 5) (c := 5) (m := 5) (b := 5) (mi_k3.2 _ _ (by rfl)) (by rfl) (by rfl) (by rfl) (ksG9 _ _ _ _) (ksG33 _ _ _ _) (ksA33 _ _ _ _) (hJ2.I.2.1 9) rfl (hJ2.I.2.1 33) rfl (or373 kor5) (or284 kor0) (or284 kor0) (or374 kor0 kor5) (or374 kor0 kor5) ?_
  intro a4 ea4 fa4
  have hJ4 := kG_al3 hJ2 33 rfl ea4 fa4 (kcpy_len2 (n := 5) (c := 5) (m := 5) (b := 5) (sp := 0) (dp := 0) (n1 := 5) (hJ2.I.2.1 9) rfl (hJ2.I.2.1 33) rfl (or373 kor5) (or284 kor0) (or284 kor0) (or374 kor0 kor5) (or374 kor0 kor5)) (fun _ => kd_bd _)
  have fi_450 : ((0 : Int) ≤ (i 450).toInt) ∧ ((i 450).toInt ≤ 5) := hJ4.I.1 450
  have hJ5 := kG_i hJ4 1986 rfl (v := (i 450)) ⟨(or0 fi_450.1), (or375 fi_450.2)⟩
  first | refine fo_goI mi_k3 fz3_28_4_36 [] (ku i 1986 (i 450)) (by rfl) ?_ | refine ft_go mi_k3 4 36 [(0, .ref 31), (1, .ref 7)] [] (ku i 1986 (i 450)) a4 q r (by rfl) ?_
  exact ft_ret mi_k3 (by rfl) (hP  _ _ _ _ hJ5 ⟨trivial, ⟨(show a4 32 = mi_cpy (a 8) (a 32) (0 : Int32).toNatClampNeg (0 : Int32).toNatClampNeg (5 : Int32).toNatClampNeg from (by first | rfl | (simp only [fa4 32 (by decide), ea2, sMn, sMx]; done) | (simp only [fa4 32 (by decide), ea2, sMn, sMx]; rfl))), (show a4 33 = mi_cpy (a 9) (a 33) (0 : Int32).toNatClampNeg (0 : Int32).toNatClampNeg (5 : Int32).toNatClampNeg from (by first | rfl | (simp only [ea4, fa2 9 (by decide), fa2 33 (by decide), sMn, sMx]; done) | (simp only [ea4, fa2 9 (by decide), fa2 33 (by decide), sMn, sMx]; rfl))), (show (i 450) = i 450 from (by first | rfl | (simp only [sMn, sMx]; done) | (simp only [sMn, sMx]; rfl)))⟩⟩)
noncomputable def yw33_25_1 : kW := ([1608, 1609, 1986], [26, 30, 32, 33, 38], [], [])
set_option maxRecDepth 100000 in
theorem ke33_25_1 {i : Nat → Int32} {a : Nat → List Int32} {q : Nat → List Int64} {r : Nat → Nat} (hI : kI i a q) (hr : kr r) (x2 : Int32) : km 3 33 [.ref 25, .ref 1, .int x2] (ks i a q r) (kVN yw33_25_1 i a q r (fun i1 a1 q1 r1 => (True) ∧ (a1 26 = mi_cpy (a 2) (a 26) (0 : Int32).toNatClampNeg (0 : Int32).toNatClampNeg (sMx 0 (sMn x2 8)).toNatClampNeg ∧ a1 30 = mi_cpy (a 6) (a 30) (0 : Int32).toNatClampNeg (0 : Int32).toNatClampNeg (sMx 0 (sMn x2 8)).toNatClampNeg ∧ a1 38 = mi_cpy (a 14) (a 38) (0 : Int32).toNatClampNeg (0 : Int32).toNatClampNeg (5 : Int32).toNatClampNeg ∧ i1 1608 = i 72 ∧ i1 1609 = i 73 ∧ a1 32 = mi_cpy (a 8) (a 32) (0 : Int32).toNatClampNeg (0 : Int32).toNatClampNeg (5 : Int32).toNatClampNeg ∧ a1 33 = mi_cpy (a 9) (a 33) (0 : Int32).toNatClampNeg (0 : Int32).toNatClampNeg (5 : Int32).toNatClampNeg ∧ i1 1986 = i 450))) := by
  have hG := kG_self yw33_25_1 hI hr
  refine km_ofN (q := (mi_h33, mi_c33)) rfl (by decide) (Nat.le_of_ble_eq_true rfl) ?_
  intro P hP
  refine fo_goL mi_k33 fz33_0_3_4 [(0, .ref 25), (1, .ref 1), (2, .int x2)] [.int 8, .int x2, .int 0] rfl ?_
  have m2 : (((bif decide (8 < x2) then 8 else x2).toInt ≤ x2.toInt) ∧ ((bif decide (8 < x2) then 8 else x2).toInt ≤ (8 : Int32).toInt)) ∧ ((bif decide (8 < x2) then 8 else x2).toInt = x2.toInt ∨ (bif decide (8 < x2) then 8 else x2).toInt = (8 : Int32).toInt) := kd_min
  refine ft_goS mi_k33 1 7 [.int (bif decide (8 < x2) then 8 else x2), .int 0] (by rfl) ?_
  generalize hm1 : (bif decide (8 < x2) then 8 else x2) = m1 at m2 ⊢
  have qm1 := hm1.symm
  have m4 : (((0 : Int32).toInt ≤ (bif decide (0 < m1) then m1 else 0).toInt) ∧ (m1.toInt ≤ (bif decide (0 < m1) then m1 else 0).toInt)) ∧ ((bif decide (0 < m1) then m1 else 0).toInt = (0 : Int32).toInt ∨ (bif decide (0 < m1) then m1 else 0).toInt = m1.toInt) := kd_max
  refine ft_goS mi_k33 1 10 [.int (bif decide (0 < m1) then m1 else 0)] (by rfl) ?_
  generalize hm3 : (bif decide (0 < m1) then m1 else 0) = m3 at m4 ⊢
  have qm3 := hm3.symm
  refine fo_goL mi_k33 fz33_10_8_22 [(3, .int m3), (0, .ref 25), (1, .ref 1), (2, .int x2)] [.int m3, .int 0, .ref 26, .int 0, .ref 2] rfl ?_
  refine ko_copyI3 mi_k33.1 (n := 8) (c := 8) (m := 8) (b := 8) (mi_k33.2 _ _ (by rfl)) (by rfl) (by rfl) (by rfl) (ksG2 _ _ _ _) (ksG26 _ _ _ _) (ksA26 _ _ _ _) (hG.I.2.1 2) rfl (hG.I.2.1 26) rfl (or317 m4.1.1 kor0) (or284 kor0) (or284 kor0) (or372 m2.1.2 m4.2 kor8 kor0) (or372 m2.1.2 m4.2 kor8 kor0) ?_
  intro a6 ea6 fa6
  have hJ6 := kG_al3 hG 26 rfl ea6 fa6 (kcpy_len2 (n := 8) (c := 8) (m := 8) (b := 8) (sp := 0) (dp := 0) (n1 := m3) (hG.I.2.1 2) rfl (hG.I.2.1 26) rfl (or317 m4.1.1 kor0) (or284 kor0) (or284 kor0) (or372 m2.1.2 m4.2 kor8 kor0) (or372 m2.1.2 m4.2 kor8 kor0)) (fun _ => kd_bd _)
  refine fo_goS mi_k33 fz33_25_7_36 [.int m3, .int 0, .ref 30, .int 0, .ref 6] rfl ?_
  refine ko_copyI3 mi_k33.1 (n := 8) (c := 8) (m := 8) (b := 8) (mi_k33.2 _ _ (by rfl)) (by rfl) (by rfl) (by rfl) (ksG6 _ _ _ _) (ksG30 _ _ _ _) (ksA30 _ _ _ _) (hJ6.I.2.1 6) rfl (hJ6.I.2.1 30) rfl (or317 m4.1.1 kor0) (or284 kor0) (or284 kor0) (or372 m2.1.2 m4.2 kor8 kor0) (or372 m2.1.2 m4.2 kor8 kor0) ?_
  intro a8 ea8 fa8
  have hJ8 := kG_al3 hJ6 30 rfl ea8 fa8 (kcpy_len2 (n := 8) (c := 8) (m := 8) (b := 8) (sp := 0) (dp := 0) (n1 := m3) (hJ6.I.2.1 6) rfl (hJ6.I.2.1 30) rfl (or317 m4.1.1 kor0) (or284 kor0) (or284 kor0) (or372 m2.1.2 m4.2 kor8 kor0) (or372 m2.1.2 m4.2 kor8 kor0)) (fun _ => kd_bd _)
  refine fo_goS mi_k33 fz33_39_7_50 [.int 5, .int 0, .ref 38, .int 0, .ref 14] rfl ?_
  refine ko_copyI3 mi_k33.1 (n := 5) (c := 5) (m := 5) (b := 5) (mi_k33.2 _ _ (by rfl)) (by rfl) (by rfl) (by rfl) (ksG14 _ _ _ _) (ksG38 _ _ _ _) (ksA38 _ _ _ _) (hJ8.I.2.1 14) rfl (hJ8.I.2.1 38) rfl (or373 kor5) (or284 kor0) (or284 kor0) (or374 kor0 kor5) (or374 kor0 kor5) ?_
  intro a10 ea10 fa10
  have hJ10 := kG_al3 hJ8 38 rfl ea10 fa10 (kcpy_len2 (n := 5) (c := 5) (m := 5) (b := 5) (sp := 0) (dp := 0) (n1 := 5) (hJ8.I.2.1 14) rfl (hJ8.I.2.1 38) rfl (or373 kor5) (or284 kor0) (or284 kor0) (or374 kor0 kor5) (or374 kor0 kor5)) (fun _ => kd_bd _)
  have hJ11 := kG_i hJ10 1608 rfl (v := (i 72)) (kd_bd _)
  have hJ12 := kG_i hJ11 1609 rfl (v := (i 73)) (kd_bd _)
  first | refine fo_goI mi_k33 fz33_53_12_77 [.ref 7, .ref 31] (ku (ku i 1608 (i 72)) 1609 (i 73)) (by rfl) ?_ | refine ft_go mi_k33 12 77 [(3, .int m3), (0, .ref 25), (1, .ref 1), (2, .int x2)] [.ref 7, .ref 31] (ku (ku i 1608 (i 72)) 1609 (i 73)) a10 q r (by rfl) ?_
  refine ko_callN mi_k33.1 (pc := 77) (ls := [(3, .int m3), (0, .ref 25), (1, .ref 1), (2, .int x2)]) (st := [.ref 7, .ref 31]) (h := ks (ku (ku i 1608 (i 72)) 1609 (i 73)) a10 q r) (i := (.invokevirtual 139, 3, 3, 0, 9, 0, 217)) (mi_k33.2 _ _ (by rfl)) (ft_invS mi_pq3 (by rfl)) (cy := mi_c3) mi_pq3 rfl (ke3_31_7 hJ12.I hJ12.R ) (by decide) ?_
  intro ig13 ag13 qg13 rg13 kg13 hg13
  have hGg13 := kG_call hJ12 kg13 (by decide +kernel)
  obtain ⟨hg13, og13⟩ := hg13
  have q14 : ag13 32 = mi_cpy (a10 8) (a10 32) (0 : Int32).toNatClampNeg (0 : Int32).toNatClampNeg (5 : Int32).toNatClampNeg := og13.1
  have q15 : ag13 33 = mi_cpy (a10 9) (a10 33) (0 : Int32).toNatClampNeg (0 : Int32).toNatClampNeg (5 : Int32).toNatClampNeg := og13.2.1
  have q16 : ig13 1986 = i 450 := og13.2.2
  exact ft_ret mi_k33 (by rfl) (hP  _ _ _ _ hGg13 ⟨trivial, ⟨(show ag13 26 = mi_cpy (a 2) (a 26) (0 : Int32).toNatClampNeg (0 : Int32).toNatClampNeg (sMx 0 (sMn x2 8)).toNatClampNeg from (by first | rfl | (simp only [kg13.fa 26 rfl, fa10 26 (by decide), fa8 26 (by decide), ea6, qm3, qm1, sMn, sMx]; done) | (simp only [kg13.fa 26 rfl, fa10 26 (by decide), fa8 26 (by decide), ea6, qm3, qm1, sMn, sMx]; rfl))), (show ag13 30 = mi_cpy (a 6) (a 30) (0 : Int32).toNatClampNeg (0 : Int32).toNatClampNeg (sMx 0 (sMn x2 8)).toNatClampNeg from (by first | rfl | (simp only [kg13.fa 30 rfl, fa10 30 (by decide), ea8, fa6 6 (by decide), fa6 30 (by decide), qm3, qm1, sMn, sMx]; done) | (simp only [kg13.fa 30 rfl, fa10 30 (by decide), ea8, fa6 6 (by decide), fa6 30 (by decide), qm3, qm1, sMn, sMx]; rfl))), (show ag13 38 = mi_cpy (a 14) (a 38) (0 : Int32).toNatClampNeg (0 : Int32).toNatClampNeg (5 : Int32).toNatClampNeg from (by first | rfl | (simp only [kg13.fa 38 rfl, ea10, fa8 14 (by decide), fa8 38 (by decide), fa6 38 (by decide), fa6 14 (by decide), sMn, sMx]; done) | (simp only [kg13.fa 38 rfl, ea10, fa8 14 (by decide), fa8 38 (by decide), fa6 38 (by decide), fa6 14 (by decide), sMn, sMx]; rfl))), (show ig13 1608 = i 72 from (by first | rfl | (simp only [(show ig13 1608 = (i 72) from kg13.fi 1608 rfl), sMn, sMx]; done) | (simp only [(show ig13 1608 = (i 72) from kg13.fi 1608 rfl), sMn, sMx]; rfl))), (show ig13 1609 = i 73 from (by first | rfl | (simp only [(show ig13 1609 = (i 73) from kg13.fi 1609 rfl), sMn, sMx]; done) | (simp only [(show ig13 1609 = (i 73) from kg13.fi 1609 rfl), sMn, sMx]; rfl))), (show ag13 32 = mi_cpy (a 8) (a 32) (0 : Int32).toNatClampNeg (0 : Int32).toNatClampNeg (5 : Int32).toNatClampNeg from (by first | rfl | (simp only [q14, fa10 8 (by decide), fa10 32 (by decide), fa8 32 (by decide), fa6 32 (by decide), fa8 8 (by decide), fa6 8 (by decide), sMn, sMx]; done) | (simp only [q14, fa10 8 (by decide), fa10 32 (by decide), fa8 32 (by decide), fa6 32 (by decide), fa8 8 (by decide), fa6 8 (by decide), sMn, sMx]; rfl))), (show ag13 33 = mi_cpy (a 9) (a 33) (0 : Int32).toNatClampNeg (0 : Int32).toNatClampNeg (5 : Int32).toNatClampNeg from (by first | rfl | (simp only [q15, fa10 9 (by decide), fa10 33 (by decide), fa8 33 (by decide), fa6 33 (by decide), fa8 9 (by decide), fa6 9 (by decide), sMn, sMx]; done) | (simp only [q15, fa10 9 (by decide), fa10 33 (by decide), fa8 33 (by decide), fa6 33 (by decide), fa8 9 (by decide), fa6 9 (by decide), sMn, sMx]; rfl))), (show ig13 1986 = i 450 from (by first | rfl | (simp only [q16, sMn, sMx]; done) | (simp only [q16, sMn, sMx]; rfl)))⟩⟩)
noncomputable def yw3_7_31 : kW := ([450], [8, 9], [], [])
set_option maxRecDepth 100000 in
theorem ke3_7_31 {i : Nat → Int32} {a : Nat → List Int32} {q : Nat → List Int64} {r : Nat → Nat} (hI : kI i a q) (hr : kr r)  : km 1 3 [.ref 7, .ref 31] (ks i a q r) (kVN yw3_7_31 i a q r (fun i1 a1 q1 r1 => (True) ∧ (a1 8 = mi_cpy (a 32) (a 8) (0 : Int32).toNatClampNeg (0 : Int32).toNatClampNeg (5 : Int32).toNatClampNeg ∧ a1 9 = mi_cpy (a 33) (a 9) (0 : Int32).toNatClampNeg (0 : Int32).toNatClampNeg (5 : Int32).toNatClampNeg ∧ i1 450 = i 1986))) := by
  have hG := kG_self yw3_7_31 hI hr
  refine km_ofN (q := (mi_h3, mi_c3)) rfl (by decide) (Nat.le_of_ble_eq_true rfl) ?_
  intro P hP
  refine fo_goL mi_k3 fz3_0_7_11 [(0, .ref 7), (1, .ref 31)] [.int 5, .int 0, .ref 8, .int 0, .ref 32] rfl ?_
  refine ko_copyI3 mi_k3.1 (n := 5) (c := 5) (m := 5) (b := 5) (mi_k3.2 _ _ (by rfl)) (by rfl) (by rfl) (by rfl) (ksG32 _ _ _ _) (ksG8 _ _ _ _) (ksA8 _ _ _ _) (hG.I.2.1 32) rfl (hG.I.2.1 8) rfl (or373 kor5) (or284 kor0) (or284 kor0) (or374 kor0 kor5) (or374 kor0 kor5) ?_
  intro a2 ea2 fa2
  have hJ2 := kG_al3 hG 8 rfl ea2 fa2 (kcpy_len2 (n := 5) (c := 5) (m := 5) (b := 5) (sp := 0) (dp := 0) (n1 := 5) (hG.I.2.1 32) rfl (hG.I.2.1 8) rfl (or373 kor5) (or284 kor0) (or284 kor0) (or374 kor0 kor5) (or374 kor0 kor5)) (fun _ => kd_bd _)
  refine fo_goS mi_k3 fz3_14_7_25 [.int 5, .int 0, .ref 9, .int 0, .ref 33] rfl ?_
  refine ko_copyI3 mi_k3.1 (n := 5) (c := 5) (m := 5) (b := 5) (mi_k3.2 _ _ (by rfl)) (by rfl) (by rfl) (by rfl) (ksG33 _ _ _ _) (ksG9 _ _ _ _) (ksA9 _ _ _ _) (hJ2.I.2.1 33) rfl (hJ2.I.2.1 9) rfl (or373 kor5) (or284 kor0) (or284 kor0) (or374 kor0 kor5) (or374 kor0 kor5) ?_
  intro a4 ea4 fa4
  have hJ4 := kG_al3 hJ2 9 rfl ea4 fa4 (kcpy_len2 (n := 5) (c := 5) (m := 5) (b := 5) (sp := 0) (dp := 0) (n1 := 5) (hJ2.I.2.1 33) rfl (hJ2.I.2.1 9) rfl (or373 kor5) (or284 kor0) (or284 kor0) (or374 kor0 kor5) (or374 kor0 kor5)) (fun _ => kd_bd _)
  have fi_1986 : ((0 : Int) ≤ (i 1986).toInt) ∧ ((i 1986).toInt ≤ 5) := hJ4.I.1 1986
  have hJ5 := kG_i hJ4 450 rfl (v := (i 1986)) ⟨(or0 fi_1986.1), (or375 fi_1986.2)⟩
  first | refine fo_goI mi_k3 fz3_28_4_36 [] (ku i 450 (i 1986)) (by rfl) ?_ | refine ft_go mi_k3 4 36 [(0, .ref 7), (1, .ref 31)] [] (ku i 450 (i 1986)) a4 q r (by rfl) ?_
  exact ft_ret mi_k3 (by rfl) (hP  _ _ _ _ hJ5 ⟨trivial, ⟨(show a4 8 = mi_cpy (a 32) (a 8) (0 : Int32).toNatClampNeg (0 : Int32).toNatClampNeg (5 : Int32).toNatClampNeg from (by first | rfl | (simp only [fa4 8 (by decide), ea2, sMn, sMx]; done) | (simp only [fa4 8 (by decide), ea2, sMn, sMx]; rfl))), (show a4 9 = mi_cpy (a 33) (a 9) (0 : Int32).toNatClampNeg (0 : Int32).toNatClampNeg (5 : Int32).toNatClampNeg from (by first | rfl | (simp only [ea4, fa2 33 (by decide), fa2 9 (by decide), sMn, sMx]; done) | (simp only [ea4, fa2 33 (by decide), fa2 9 (by decide), sMn, sMx]; rfl))), (show (i 1986) = i 1986 from (by first | rfl | (simp only [sMn, sMx]; done) | (simp only [sMn, sMx]; rfl)))⟩⟩)
noncomputable def yw33_1_25 : kW := ([72, 73, 450], [2, 6, 8, 9, 14], [], [])
set_option maxRecDepth 100000 in
theorem ke33_1_25 {i : Nat → Int32} {a : Nat → List Int32} {q : Nat → List Int64} {r : Nat → Nat} (hI : kI i a q) (hr : kr r) (x2 : Int32) : km 3 33 [.ref 1, .ref 25, .int x2] (ks i a q r) (kVN yw33_1_25 i a q r (fun i1 a1 q1 r1 => (True) ∧ (a1 2 = mi_cpy (a 26) (a 2) (0 : Int32).toNatClampNeg (0 : Int32).toNatClampNeg (sMx 0 (sMn x2 8)).toNatClampNeg ∧ a1 6 = mi_cpy (a 30) (a 6) (0 : Int32).toNatClampNeg (0 : Int32).toNatClampNeg (sMx 0 (sMn x2 8)).toNatClampNeg ∧ a1 14 = mi_cpy (a 38) (a 14) (0 : Int32).toNatClampNeg (0 : Int32).toNatClampNeg (5 : Int32).toNatClampNeg ∧ i1 72 = i 1608 ∧ i1 73 = i 1609 ∧ a1 8 = mi_cpy (a 32) (a 8) (0 : Int32).toNatClampNeg (0 : Int32).toNatClampNeg (5 : Int32).toNatClampNeg ∧ a1 9 = mi_cpy (a 33) (a 9) (0 : Int32).toNatClampNeg (0 : Int32).toNatClampNeg (5 : Int32).toNatClampNeg ∧ i1 450 = i 1986))) := by
  have hG := kG_self yw33_1_25 hI hr
  refine km_ofN (q := (mi_h33, mi_c33)) rfl (by decide) (Nat.le_of_ble_eq_true rfl) ?_
  intro P hP
  refine fo_goL mi_k33 fz33_0_3_4 [(0, .ref 1), (1, .ref 25), (2, .int x2)] [.int 8, .int x2, .int 0] rfl ?_
  have m2 : (((bif decide (8 < x2) then 8 else x2).toInt ≤ x2.toInt) ∧ ((bif decide (8 < x2) then 8 else x2).toInt ≤ (8 : Int32).toInt)) ∧ ((bif decide (8 < x2) then 8 else x2).toInt = x2.toInt ∨ (bif decide (8 < x2) then 8 else x2).toInt = (8 : Int32).toInt) := kd_min
  refine ft_goS mi_k33 1 7 [.int (bif decide (8 < x2) then 8 else x2), .int 0] (by rfl) ?_
  generalize hm1 : (bif decide (8 < x2) then 8 else x2) = m1 at m2 ⊢
  have qm1 := hm1.symm
  have m4 : (((0 : Int32).toInt ≤ (bif decide (0 < m1) then m1 else 0).toInt) ∧ (m1.toInt ≤ (bif decide (0 < m1) then m1 else 0).toInt)) ∧ ((bif decide (0 < m1) then m1 else 0).toInt = (0 : Int32).toInt ∨ (bif decide (0 < m1) then m1 else 0).toInt = m1.toInt) := kd_max
  refine ft_goS mi_k33 1 10 [.int (bif decide (0 < m1) then m1 else 0)] (by rfl) ?_
  generalize hm3 : (bif decide (0 < m1) then m1 else 0) = m3 at m4 ⊢
  have qm3 := hm3.symm
  refine fo_goL mi_k33 fz33_10_8_22 [(3, .int m3), (0, .ref 1), (1, .ref 25), (2, .int x2)] [.int m3, .int 0, .ref 2, .int 0, .ref 26] rfl ?_
  refine ko_copyI3 mi_k33.1 (n := 8) (c := 8) (m := 8) (b := 8) (mi_k33.2 _ _ (by rfl)) (by rfl) (by rfl) (by rfl) (ksG26 _ _ _ _) (ksG2 _ _ _ _) (ksA2 _ _ _ _) (hG.I.2.1 26) rfl (hG.I.2.1 2) rfl (or317 m4.1.1 kor0) (or284 kor0) (or284 kor0) (or372 m2.1.2 m4.2 kor8 kor0) (or372 m2.1.2 m4.2 kor8 kor0) ?_
  intro a6 ea6 fa6
  have hJ6 := kG_al3 hG 2 rfl ea6 fa6 (kcpy_len2 (n := 8) (c := 8) (m := 8) (b := 8) (sp := 0) (dp := 0) (n1 := m3) (hG.I.2.1 26) rfl (hG.I.2.1 2) rfl (or317 m4.1.1 kor0) (or284 kor0) (or284 kor0) (or372 m2.1.2 m4.2 kor8 kor0) (or372 m2.1.2 m4.2 kor8 kor0)) (fun _ => kd_bd _)
  refine fo_goS mi_k33 fz33_25_7_36 [.int m3, .int 0, .ref 6, .int 0, .ref 30] rfl ?_
  refine ko_copyI3 mi_k33.1 (n := 8) (c := 8) (m := 8) (b := 8) (mi_k33.2 _ _ (by rfl)) (by rfl) (by rfl) (by rfl) (ksG30 _ _ _ _) (ksG6 _ _ _ _) (ksA6 _ _ _ _) (hJ6.I.2.1 30) rfl (hJ6.I.2.1 6) rfl (or317 m4.1.1 kor0) (or284 kor0) (or284 kor0) (or372 m2.1.2 m4.2 kor8 kor0) (or372 m2.1.2 m4.2 kor8 kor0) ?_
  intro a8 ea8 fa8
  have hJ8 := kG_al3 hJ6 6 rfl ea8 fa8 (kcpy_len2 (n := 8) (c := 8) (m := 8) (b := 8) (sp := 0) (dp := 0) (n1 := m3) (hJ6.I.2.1 30) rfl (hJ6.I.2.1 6) rfl (or317 m4.1.1 kor0) (or284 kor0) (or284 kor0) (or372 m2.1.2 m4.2 kor8 kor0) (or372 m2.1.2 m4.2 kor8 kor0)) (fun _ => kd_bd _)
  refine fo_goS mi_k33 fz33_39_7_50 [.int 5, .int 0, .ref 14, .int 0, .ref 38] rfl ?_
  refine ko_copyI3 mi_k33.1 (n := 5) (c := 5) (m := 5) (b := 5) (mi_k33.2 _ _ (by rfl)) (by rfl) (by rfl) (by rfl) (ksG38 _ _ _ _) (ksG14 _ _ _ _) (ksA14 _ _ _ _) (hJ8.I.2.1 38) rfl (hJ8.I.2.1 14) rfl (or373 kor5) (or284 kor0) (or284 kor0) (or374 kor0 kor5) (or374 kor0 kor5) ?_
  intro a10 ea10 fa10
  have hJ10 := kG_al3 hJ8 14 rfl ea10 fa10 (kcpy_len2 (n := 5) (c := 5) (m := 5) (b := 5) (sp := 0) (dp := 0) (n1 := 5) (hJ8.I.2.1 38) rfl (hJ8.I.2.1 14) rfl (or373 kor5) (or284 kor0) (or284 kor0) (or374 kor0 kor5) (or374 kor0 kor5)) (fun _ => kd_bd _)
  have hJ11 := kG_i hJ10 72 rfl (v := (i 1608)) (kd_bd _)
  have hJ12 := kG_i hJ11 73 rfl (v := (i 1609)) (kd_bd _)
  first | refine fo_goI mi_k33 fz33_53_12_77 [.ref 31, .ref 7] (ku (ku i 72 (i 1608)) 73 (i 1609)) (by rfl) ?_ | refine ft_go mi_k33 12 77 [(3, .int m3), (0, .ref 1), (1, .ref 25), (2, .int x2)] [.ref 31, .ref 7] (ku (ku i 72 (i 1608)) 73 (i 1609)) a10 q r (by rfl) ?_
  refine ko_callN mi_k33.1 (pc := 77) (ls := [(3, .int m3), (0, .ref 1), (1, .ref 25), (2, .int x2)]) (st := [.ref 31, .ref 7]) (h := ks (ku (ku i 72 (i 1608)) 73 (i 1609)) a10 q r) (i := (.invokevirtual 139, 3, 3, 0, 9, 0, 217)) (mi_k33.2 _ _ (by rfl)) (ft_invS mi_pq3 (by rfl)) (cy := mi_c3) mi_pq3 rfl (ke3_7_31 hJ12.I hJ12.R ) (by decide) ?_
  intro ig13 ag13 qg13 rg13 kg13 hg13
  have hGg13 := kG_call hJ12 kg13 (by decide +kernel)
  obtain ⟨hg13, og13⟩ := hg13
  have q14 : ag13 8 = mi_cpy (a10 32) (a10 8) (0 : Int32).toNatClampNeg (0 : Int32).toNatClampNeg (5 : Int32).toNatClampNeg := og13.1
  have q15 : ag13 9 = mi_cpy (a10 33) (a10 9) (0 : Int32).toNatClampNeg (0 : Int32).toNatClampNeg (5 : Int32).toNatClampNeg := og13.2.1
  have q16 : ig13 450 = i 1986 := og13.2.2
  exact ft_ret mi_k33 (by rfl) (hP  _ _ _ _ hGg13 ⟨trivial, ⟨(show ag13 2 = mi_cpy (a 26) (a 2) (0 : Int32).toNatClampNeg (0 : Int32).toNatClampNeg (sMx 0 (sMn x2 8)).toNatClampNeg from (by first | rfl | (simp only [kg13.fa 2 rfl, fa10 2 (by decide), fa8 2 (by decide), ea6, qm3, qm1, sMn, sMx]; done) | (simp only [kg13.fa 2 rfl, fa10 2 (by decide), fa8 2 (by decide), ea6, qm3, qm1, sMn, sMx]; rfl))), (show ag13 6 = mi_cpy (a 30) (a 6) (0 : Int32).toNatClampNeg (0 : Int32).toNatClampNeg (sMx 0 (sMn x2 8)).toNatClampNeg from (by first | rfl | (simp only [kg13.fa 6 rfl, fa10 6 (by decide), ea8, fa6 30 (by decide), fa6 6 (by decide), qm3, qm1, sMn, sMx]; done) | (simp only [kg13.fa 6 rfl, fa10 6 (by decide), ea8, fa6 30 (by decide), fa6 6 (by decide), qm3, qm1, sMn, sMx]; rfl))), (show ag13 14 = mi_cpy (a 38) (a 14) (0 : Int32).toNatClampNeg (0 : Int32).toNatClampNeg (5 : Int32).toNatClampNeg from (by first | rfl | (simp only [kg13.fa 14 rfl, ea10, fa8 38 (by decide), fa8 14 (by decide), fa6 14 (by decide), fa6 38 (by decide), sMn, sMx]; done) | (simp only [kg13.fa 14 rfl, ea10, fa8 38 (by decide), fa8 14 (by decide), fa6 14 (by decide), fa6 38 (by decide), sMn, sMx]; rfl))), (show ig13 72 = i 1608 from (by first | rfl | (simp only [(show ig13 72 = (i 1608) from kg13.fi 72 rfl), sMn, sMx]; done) | (simp only [(show ig13 72 = (i 1608) from kg13.fi 72 rfl), sMn, sMx]; rfl))), (show ig13 73 = i 1609 from (by first | rfl | (simp only [(show ig13 73 = (i 1609) from kg13.fi 73 rfl), sMn, sMx]; done) | (simp only [(show ig13 73 = (i 1609) from kg13.fi 73 rfl), sMn, sMx]; rfl))), (show ag13 8 = mi_cpy (a 32) (a 8) (0 : Int32).toNatClampNeg (0 : Int32).toNatClampNeg (5 : Int32).toNatClampNeg from (by first | rfl | (simp only [q14, fa10 32 (by decide), fa10 8 (by decide), fa8 8 (by decide), fa6 8 (by decide), fa8 32 (by decide), fa6 32 (by decide), sMn, sMx]; done) | (simp only [q14, fa10 32 (by decide), fa10 8 (by decide), fa8 8 (by decide), fa6 8 (by decide), fa8 32 (by decide), fa6 32 (by decide), sMn, sMx]; rfl))), (show ag13 9 = mi_cpy (a 33) (a 9) (0 : Int32).toNatClampNeg (0 : Int32).toNatClampNeg (5 : Int32).toNatClampNeg from (by first | rfl | (simp only [q15, fa10 33 (by decide), fa10 9 (by decide), fa8 9 (by decide), fa6 9 (by decide), fa8 33 (by decide), fa6 33 (by decide), sMn, sMx]; done) | (simp only [q15, fa10 33 (by decide), fa10 9 (by decide), fa8 9 (by decide), fa6 9 (by decide), fa8 33 (by decide), fa6 33 (by decide), sMn, sMx]; rfl))), (show ig13 450 = i 1986 from (by first | rfl | (simp only [q16, sMn, sMx]; done) | (simp only [q16, sMn, sMx]; rfl)))⟩⟩)
noncomputable def yw106_0 : kW := ([2, 1600, 1608, 1609, 1986], [26, 30, 32, 33, 38], [], [])
set_option maxRecDepth 100000 in
theorem ke106_0 {i : Nat → Int32} {a : Nat → List Int32} {q : Nat → List Int64} {r : Nat → Nat} (hI : kI i a q) (hr : kr r)  : km 5 106 [.ref 0] (ks i a q r) (kVI yw106_0 i a q r (fun v i1 a1 q1 r1 => (True) ∧ (a1 26 = mi_cpy (a 2) (a 26) (0 : Int32).toNatClampNeg (0 : Int32).toNatClampNeg (sMx 0 (sMn (i 64) 8)).toNatClampNeg ∧ a1 30 = mi_cpy (a 6) (a 30) (0 : Int32).toNatClampNeg (0 : Int32).toNatClampNeg (sMx 0 (sMn (i 64) 8)).toNatClampNeg ∧ a1 38 = mi_cpy (a 14) (a 38) (0 : Int32).toNatClampNeg (0 : Int32).toNatClampNeg (5 : Int32).toNatClampNeg ∧ i1 1608 = i 72 ∧ i1 1609 = i 73 ∧ a1 32 = mi_cpy (a 8) (a 32) (0 : Int32).toNatClampNeg (0 : Int32).toNatClampNeg (5 : Int32).toNatClampNeg ∧ a1 33 = mi_cpy (a 9) (a 33) (0 : Int32).toNatClampNeg (0 : Int32).toNatClampNeg (5 : Int32).toNatClampNeg ∧ i1 1986 = i 450 ∧ i1 1600 = i 64 ∧ i1 2 = 1 ∧ v = (a 14).getD (0 : Int32).toNatClampNeg 0))) := by
  have hG := kG_self yw106_0 hI hr
  refine km_ofI (q := (mi_h106, mi_c106)) rfl (by decide) (Nat.le_of_ble_eq_true rfl) ?_
  intro P hP
  have fi_64 : ((0 : Int) ≤ (i 64).toInt) ∧ ((i 64).toInt ≤ 8) := hG.I.1 64
  have hJ1 := kG_i hG 1600 rfl (v := (i 64)) ⟨(or0 fi_64.1), (or270 fi_64.2)⟩
  first | refine fo_go mi_k106 fz106_0_13_29 [(0, .ref 0)] [.int (i 64), .ref 1, .ref 25] (ku i 1600 (i 64)) a q r (by rfl) ?_ | refine ft_go mi_k106 13 29 [(0, .ref 0)] [.int (i 64), .ref 1, .ref 25] (ku i 1600 (i 64)) a q r (by rfl) ?_
  refine ko_callN mi_k106.1 (pc := 29) (ls := [(0, .ref 0)]) (st := [.int (i 64), .ref 1, .ref 25]) (h := ks (ku i 1600 (i 64)) a q r) (i := (.invokevirtual 270, 3, 33, 0, 9, 0, 288)) (mi_k106.2 _ _ (by rfl)) (ft_invS mi_pq33 (by rfl)) (cy := mi_c33) mi_pq33 rfl (ke33_25_1 hJ1.I hJ1.R (i 64)) (by decide) ?_
  intro ig2 ag2 qg2 rg2 kg2 hg2
  have hGg2 := kG_call hJ1 kg2 (by decide +kernel)
  obtain ⟨hg2, og2⟩ := hg2
  have q3 : ag2 26 = mi_cpy (a 2) (a 26) (0 : Int32).toNatClampNeg (0 : Int32).toNatClampNeg (sMx 0 (sMn (i 64) 8)).toNatClampNeg := og2.1
  have q4 : ag2 30 = mi_cpy (a 6) (a 30) (0 : Int32).toNatClampNeg (0 : Int32).toNatClampNeg (sMx 0 (sMn (i 64) 8)).toNatClampNeg := og2.2.1
  have q5 : ag2 38 = mi_cpy (a 14) (a 38) (0 : Int32).toNatClampNeg (0 : Int32).toNatClampNeg (5 : Int32).toNatClampNeg := og2.2.2.1
  have q6 : ig2 1608 = i 72 := og2.2.2.2.1
  have q7 : ig2 1609 = i 73 := og2.2.2.2.2.1
  have q8 : ag2 32 = mi_cpy (a 8) (a 32) (0 : Int32).toNatClampNeg (0 : Int32).toNatClampNeg (5 : Int32).toNatClampNeg := og2.2.2.2.2.2.1
  have q9 : ag2 33 = mi_cpy (a 9) (a 33) (0 : Int32).toNatClampNeg (0 : Int32).toNatClampNeg (5 : Int32).toNatClampNeg := og2.2.2.2.2.2.2.1
  have q10 : ig2 1986 = i 450 := og2.2.2.2.2.2.2.2
  have hJ11 := kG_i hGg2 2 rfl (v := 1) ⟨(or268 kor1), (or269 kor1)⟩
  first | refine fo_goI mi_k106 fz106_32_7_45 [.int 0, .ref 14] (ku ig2 2 1) (by rfl) ?_ | refine ft_go mi_k106 7 45 [(0, .ref 0)] [.int 0, .ref 14] (ku ig2 2 1) ag2 qg2 rg2 (by rfl) ?_
  refine ko_iald3 mi_k106.1 (n := 5) (c := 5) (ax := (0, 0, 0, 0, 0)) (mi_k106.2 _ _ (by rfl)) (by rfl) (ksG14 _ _ _ _) (hJ11.I.2.1 14) rfl (or284 kor0) (or286 kor0) ?_
  exact ft_ret mi_k106 (by rfl) (hP ((ag2 14).getD (0 : Int32).toNatClampNeg 0) _ _ _ _ hJ11 ⟨trivial, ⟨(show ag2 26 = mi_cpy (a 2) (a 26) (0 : Int32).toNatClampNeg (0 : Int32).toNatClampNeg (sMx 0 (sMn (i 64) 8)).toNatClampNeg from (by first | rfl | (simp only [q3, sMn, sMx]; done) | (simp only [q3, sMn, sMx]; rfl))), (show ag2 30 = mi_cpy (a 6) (a 30) (0 : Int32).toNatClampNeg (0 : Int32).toNatClampNeg (sMx 0 (sMn (i 64) 8)).toNatClampNeg from (by first | rfl | (simp only [q4, sMn, sMx]; done) | (simp only [q4, sMn, sMx]; rfl))), (show ag2 38 = mi_cpy (a 14) (a 38) (0 : Int32).toNatClampNeg (0 : Int32).toNatClampNeg (5 : Int32).toNatClampNeg from (by first | rfl | (simp only [q5, sMn, sMx]; done) | (simp only [q5, sMn, sMx]; rfl))), (show ig2 1608 = i 72 from (by first | rfl | (simp only [q6, sMn, sMx]; done) | (simp only [q6, sMn, sMx]; rfl))), (show ig2 1609 = i 73 from (by first | rfl | (simp only [q7, sMn, sMx]; done) | (simp only [q7, sMn, sMx]; rfl))), (show ag2 32 = mi_cpy (a 8) (a 32) (0 : Int32).toNatClampNeg (0 : Int32).toNatClampNeg (5 : Int32).toNatClampNeg from (by first | rfl | (simp only [q8, sMn, sMx]; done) | (simp only [q8, sMn, sMx]; rfl))), (show ag2 33 = mi_cpy (a 9) (a 33) (0 : Int32).toNatClampNeg (0 : Int32).toNatClampNeg (5 : Int32).toNatClampNeg from (by first | rfl | (simp only [q9, sMn, sMx]; done) | (simp only [q9, sMn, sMx]; rfl))), (show ig2 1986 = i 450 from (by first | rfl | (simp only [q10, sMn, sMx]; done) | (simp only [q10, sMn, sMx]; rfl))), (show ig2 1600 = i 64 from (by first | rfl | (simp only [(show ig2 1600 = (i 64) from kg2.fi 1600 rfl), sMn, sMx]; done) | (simp only [(show ig2 1600 = (i 64) from kg2.fi 1600 rfl), sMn, sMx]; rfl))), (show (1 : Int32) = 1 from (by first | rfl | (simp only [sMn, sMx]; done) | (simp only [sMn, sMx]; rfl))), (show ((ag2 14).getD (0 : Int32).toNatClampNeg 0) = (a 14).getD (0 : Int32).toNatClampNeg 0 from (by first | rfl | (simp only [kg2.fa 14 rfl, sMn, sMx]; done) | (simp only [kg2.fa 14 rfl, sMn, sMx]; rfl)))⟩⟩)
noncomputable def yw107_0 : kW := ([72, 73, 450], [2, 6, 8, 9, 14], [], [])
set_option maxRecDepth 100000 in
theorem ke107_0 {i : Nat → Int32} {a : Nat → List Int32} {q : Nat → List Int64} {r : Nat → Nat} (hI : kI i a q) (hr : kr r)  : km 5 107 [.ref 0] (ks i a q r) (kVI yw107_0 i a q r (fun v i1 a1 q1 r1 => (True) ∧ (((i 2).toInt ≠ 0 → a1 2 = mi_cpy (a 26) (a 2) (0 : Int32).toNatClampNeg (0 : Int32).toNatClampNeg (sMx 0 (sMn (i 1600) 8)).toNatClampNeg) ∧ ((i 2).toInt ≠ 0 → a1 6 = mi_cpy (a 30) (a 6) (0 : Int32).toNatClampNeg (0 : Int32).toNatClampNeg (sMx 0 (sMn (i 1600) 8)).toNatClampNeg) ∧ ((i 2).toInt ≠ 0 → a1 14 = mi_cpy (a 38) (a 14) (0 : Int32).toNatClampNeg (0 : Int32).toNatClampNeg (5 : Int32).toNatClampNeg) ∧ ((i 2).toInt ≠ 0 → i1 72 = i 1608) ∧ ((i 2).toInt ≠ 0 → i1 73 = i 1609) ∧ ((i 2).toInt ≠ 0 → a1 8 = mi_cpy (a 32) (a 8) (0 : Int32).toNatClampNeg (0 : Int32).toNatClampNeg (5 : Int32).toNatClampNeg) ∧ ((i 2).toInt ≠ 0 → a1 9 = mi_cpy (a 33) (a 9) (0 : Int32).toNatClampNeg (0 : Int32).toNatClampNeg (5 : Int32).toNatClampNeg) ∧ ((i 2).toInt ≠ 0 → i1 450 = i 1986) ∧ ((i 2).toInt ≠ 0 → v = (mi_cpy (a 38) (a 14) (0 : Int32).toNatClampNeg (0 : Int32).toNatClampNeg (5 : Int32).toNatClampNeg).getD (0 : Int32).toNatClampNeg 0) ∧ ((i 2).toInt = 0 → a1 2 = a 2) ∧ ((i 2).toInt = 0 → a1 6 = a 6) ∧ ((i 2).toInt = 0 → a1 14 = a 14) ∧ ((i 2).toInt = 0 → i1 72 = i 72) ∧ ((i 2).toInt = 0 → i1 73 = i 73) ∧ ((i 2).toInt = 0 → a1 8 = a 8) ∧ ((i 2).toInt = 0 → a1 9 = a 9) ∧ ((i 2).toInt = 0 → i1 450 = i 450) ∧ ((i 2).toInt = 0 → v = -5)))) := by
  have hG := kG_self yw107_0 hI hr
  refine km_ofI (q := (mi_h107, mi_c107)) rfl (by decide) (Nat.le_of_ble_eq_true rfl) ?_
  intro P hP
  have fi_2 : ((0 : Int) ≤ (i 2).toInt) ∧ ((i 2).toInt ≤ 1) := hG.I.1 2
  refine ft_goL mi_k107 2 4 [(0, .ref 0)] [.int (i 2)] (by rfl) ?_
  refine ft_ifS mi_k107 ((i 2) != 0) 10 7 [] (by rfl) (fun c => ?_) (fun c => ?_)
  ·
    have c1 : (i 2).toInt ≠ (0 : Int32).toInt := kd_ne c; clear c
    refine fo_goS mi_k107 fz107_10_7_25 [.int (i 1600), .ref 25, .ref 1] rfl ?_
    refine ko_callN mi_k107.1 (pc := 25) (ls := [(0, .ref 0)]) (st := [.int (i 1600), .ref 25, .ref 1]) (h := ks i a q r) (i := (.invokevirtual 270, 3, 33, 0, 9, 0, 288)) (mi_k107.2 _ _ (by rfl)) (ft_invS mi_pq33 (by rfl)) (cy := mi_c33) mi_pq33 rfl (ke33_1_25 hG.I hG.R (i 1600)) (by decide) ?_
    intro ig2 ag2 qg2 rg2 kg2 hg2
    have hGg2 := kG_call hG kg2 (by decide +kernel)
    obtain ⟨hg2, og2⟩ := hg2
    have q3 : ag2 2 = mi_cpy (a 26) (a 2) (0 : Int32).toNatClampNeg (0 : Int32).toNatClampNeg (sMx 0 (sMn (i 1600) 8)).toNatClampNeg := og2.1
    have q4 : ag2 6 = mi_cpy (a 30) (a 6) (0 : Int32).toNatClampNeg (0 : Int32).toNatClampNeg (sMx 0 (sMn (i 1600) 8)).toNatClampNeg := og2.2.1
    have q5 : ag2 14 = mi_cpy (a 38) (a 14) (0 : Int32).toNatClampNeg (0 : Int32).toNatClampNeg (5 : Int32).toNatClampNeg := og2.2.2.1
    have q6 : ig2 72 = i 1608 := og2.2.2.2.1
    have q7 : ig2 73 = i 1609 := og2.2.2.2.2.1
    have q8 : ag2 8 = mi_cpy (a 32) (a 8) (0 : Int32).toNatClampNeg (0 : Int32).toNatClampNeg (5 : Int32).toNatClampNeg := og2.2.2.2.2.2.1
    have q9 : ag2 9 = mi_cpy (a 33) (a 9) (0 : Int32).toNatClampNeg (0 : Int32).toNatClampNeg (5 : Int32).toNatClampNeg := og2.2.2.2.2.2.2.1
    have q10 : ig2 450 = i 1986 := og2.2.2.2.2.2.2.2
    refine ft_goS mi_k107 4 36 [.int 0, .ref 14] (by rfl) ?_
    refine ko_iald3 mi_k107.1 (n := 5) (c := 5) (ax := (0, 0, 0, 0, 0)) (mi_k107.2 _ _ (by rfl)) (by rfl) (ksG14 _ _ _ _) (hGg2.I.2.1 14) rfl (or284 kor0) (or286 kor0) ?_
    exact ft_ret mi_k107 (by rfl) (hP ((ag2 14).getD (0 : Int32).toNatClampNeg 0) _ _ _ _ hGg2 ⟨trivial, ⟨(fun _ => (show ag2 2 = mi_cpy (a 26) (a 2) (0 : Int32).toNatClampNeg (0 : Int32).toNatClampNeg (sMx 0 (sMn (i 1600) 8)).toNatClampNeg from (by first | rfl | (simp only [q3, sMn, sMx]; done) | (simp only [q3, sMn, sMx]; rfl)))), (fun _ => (show ag2 6 = mi_cpy (a 30) (a 6) (0 : Int32).toNatClampNeg (0 : Int32).toNatClampNeg (sMx 0 (sMn (i 1600) 8)).toNatClampNeg from (by first | rfl | (simp only [q4, sMn, sMx]; done) | (simp only [q4, sMn, sMx]; rfl)))), (fun _ => (show ag2 14 = mi_cpy (a 38) (a 14) (0 : Int32).toNatClampNeg (0 : Int32).toNatClampNeg (5 : Int32).toNatClampNeg from (by first | rfl | (simp only [q5, sMn, sMx]; done) | (simp only [q5, sMn, sMx]; rfl)))), (fun _ => (show ig2 72 = i 1608 from (by first | rfl | (simp only [q6, sMn, sMx]; done) | (simp only [q6, sMn, sMx]; rfl)))), (fun _ => (show ig2 73 = i 1609 from (by first | rfl | (simp only [q7, sMn, sMx]; done) | (simp only [q7, sMn, sMx]; rfl)))), (fun _ => (show ag2 8 = mi_cpy (a 32) (a 8) (0 : Int32).toNatClampNeg (0 : Int32).toNatClampNeg (5 : Int32).toNatClampNeg from (by first | rfl | (simp only [q8, sMn, sMx]; done) | (simp only [q8, sMn, sMx]; rfl)))), (fun _ => (show ag2 9 = mi_cpy (a 33) (a 9) (0 : Int32).toNatClampNeg (0 : Int32).toNatClampNeg (5 : Int32).toNatClampNeg from (by first | rfl | (simp only [q9, sMn, sMx]; done) | (simp only [q9, sMn, sMx]; rfl)))), (fun _ => (show ig2 450 = i 1986 from (by first | rfl | (simp only [q10, sMn, sMx]; done) | (simp only [q10, sMn, sMx]; rfl)))), (fun _ => (show ((ag2 14).getD (0 : Int32).toNatClampNeg 0) = (mi_cpy (a 38) (a 14) (0 : Int32).toNatClampNeg (0 : Int32).toNatClampNeg (5 : Int32).toNatClampNeg).getD (0 : Int32).toNatClampNeg 0 from (by first | rfl | (simp only [q5, sMn, sMx]; done) | (simp only [q5, sMn, sMx]; rfl)))), (fun h => absurd h (or292 c1 fi_2.1 kor0)), (fun h => absurd h (or292 c1 fi_2.1 kor0)), (fun h => absurd h (or292 c1 fi_2.1 kor0)), (fun h => absurd h (or292 c1 fi_2.1 kor0)), (fun h => absurd h (or292 c1 fi_2.1 kor0)), (fun h => absurd h (or292 c1 fi_2.1 kor0)), (fun h => absurd h (or292 c1 fi_2.1 kor0)), (fun h => absurd h (or292 c1 fi_2.1 kor0)), (fun h => absurd h (or292 c1 fi_2.1 kor0))⟩⟩)
  ·
    have c11 : (i 2).toInt = (0 : Int32).toInt := kd_neF c; clear c
    refine ft_goS mi_k107 1 9 [.int (-5)] (by rfl) ?_
    exact ft_ret mi_k107 (by rfl) (hP (-5) _ _ _ _ hG ⟨trivial, ⟨(fun h => absurd h (or313 c11 fi_2.1 kor0)), (fun h => absurd h (or313 c11 fi_2.1 kor0)), (fun h => absurd h (or313 c11 fi_2.1 kor0)), (fun h => absurd h (or313 c11 fi_2.1 kor0)), (fun h => absurd h (or313 c11 fi_2.1 kor0)), (fun h => absurd h (or313 c11 fi_2.1 kor0)), (fun h => absurd h (or313 c11 fi_2.1 kor0)), (fun h => absurd h (or313 c11 fi_2.1 kor0)), (fun h => absurd h (or313 c11 fi_2.1 kor0)), (fun _ => (show a 2 = a 2 from rfl)), (fun _ => (show a 6 = a 6 from rfl)), (fun _ => (show a 14 = a 14 from rfl)), (fun _ => (show i 72 = i 72 from rfl)), (fun _ => (show i 73 = i 73 from rfl)), (fun _ => (show a 8 = a 8 from rfl)), (fun _ => (show a 9 = a 9 from rfl)), (fun _ => (show i 450 = i 450 from rfl)), (fun _ => (show ((-5) : Int32) = -5 from (by first | rfl | (simp only [sMn, sMx]; done) | (simp only [sMn, sMx]; rfl))))⟩⟩)
noncomputable def yw202_116 : kW := ([7464, 7465, 7466, 7467], [118, 128, 129, 130, 141], [], [])
set_option maxRecDepth 100000 in
theorem ke202_116 {i : Nat → Int32} {a : Nat → List Int32} {q : Nat → List Int64} {r : Nat → Nat} (hI : kI i a q) (hr : kr r) (x1 : Int32) (hE_code : kCode i a) : km 11 202 [.ref 116, .int x1] (ks i a q r) (kVI yw202_116 i a q r (fun v i1 a1 q1 r1 => (True) ∧ ((((0 : Int) ≤ x1.toInt) ∧ (x1.toInt < (i 7424).toInt) ∧ (¬ ((((a 117).getD (16 + x1).toNatClampNeg 0).toInt = 1) ∧ ((i 7427).toInt = 0))) → a1 118 = sCome x1 (gBuy (i 7431) (a 120) (a 121) (a 122) (a 123) (i 7432) (a 117) (a 118) (gPaid (i 7426) x1 (a 118) 0 (a 141)).1 x1) (gPaid (i 7426) x1 (a 118) 0 (a 141)).1) ∧ (((0 : Int) ≤ x1.toInt) ∧ (x1.toInt < (i 7424).toInt) ∧ (¬ ((((a 117).getD (16 + x1).toNatClampNeg 0).toInt = 1) ∧ ((i 7427).toInt = 0))) → a1 130 = ((((a 130).set (0 : Int32).toNatClampNeg ((a 130).getD (0 : Int32).toNatClampNeg 0 + 1)).set (1 : Int32).toNatClampNeg (((a 130).set (0 : Int32).toNatClampNeg ((a 130).getD (0 : Int32).toNatClampNeg 0 + 1)).getD (1 : Int32).toNatClampNeg 0 + (gPaid (i 7426) x1 (a 118) 0 (a 141)).2.2.1)).set (2 : Int32).toNatClampNeg ((((a 130).set (0 : Int32).toNatClampNeg ((a 130).getD (0 : Int32).toNatClampNeg 0 + 1)).set (1 : Int32).toNatClampNeg (((a 130).set (0 : Int32).toNatClampNeg ((a 130).getD (0 : Int32).toNatClampNeg 0 + 1)).getD (1 : Int32).toNatClampNeg 0 + (gPaid (i 7426) x1 (a 118) 0 (a 141)).2.2.1)).getD (2 : Int32).toNatClampNeg 0 + (gPaid (i 7426) x1 (a 118) 0 (a 141)).2.2.2.1))) ∧ (((0 : Int) ≤ x1.toInt) ∧ (x1.toInt < (i 7424).toInt) ∧ (¬ ((((a 117).getD (16 + x1).toNatClampNeg 0).toInt = 1) ∧ ((i 7427).toInt = 0))) → v = (gPaid (i 7426) x1 (a 118) 0 (a 141)).2.2.1) ∧ (((0 : Int) ≤ x1.toInt) ∧ (x1.toInt < (i 7424).toInt) ∧ (((a 117).getD (16 + x1).toNatClampNeg 0).toInt = 1) ∧ ((i 7427).toInt = 0) → a1 118 = a 118) ∧ (((0 : Int) ≤ x1.toInt) ∧ (x1.toInt < (i 7424).toInt) ∧ (((a 117).getD (16 + x1).toNatClampNeg 0).toInt = 1) ∧ ((i 7427).toInt = 0) → a1 130 = (((a 130).set (1 : Int32).toNatClampNeg ((a 130).getD (1 : Int32).toNatClampNeg 0 + 0)).set (2 : Int32).toNatClampNeg (((a 130).set (1 : Int32).toNatClampNeg ((a 130).getD (1 : Int32).toNatClampNeg 0 + 0)).getD (2 : Int32).toNatClampNeg 0 + 0))) ∧ (((0 : Int) ≤ x1.toInt) ∧ (x1.toInt < (i 7424).toInt) ∧ (((a 117).getD (16 + x1).toNatClampNeg 0).toInt = 1) ∧ ((i 7427).toInt = 0) → v = 0) ∧ (¬ (((0 : Int) ≤ x1.toInt) ∧ (x1.toInt < (i 7424).toInt)) → a1 118 = a 118) ∧ (¬ (((0 : Int) ≤ x1.toInt) ∧ (x1.toInt < (i 7424).toInt)) → a1 130 = a 130) ∧ (¬ (((0 : Int) ≤ x1.toInt) ∧ (x1.toInt < (i 7424).toInt)) → v = -1)))) := by
  have hG := kG_self yw202_116 hI hr
  refine km_ofI (q := (mi_h202, mi_c202)) rfl (by decide) (Nat.le_of_ble_eq_true rfl) ?_
  intro P hP
  refine ft_goL mi_k202 2 2 [(0, .ref 116), (1, .int x1)] [.int x1, .ref 116] (by rfl) ?_
  refine ko_callPI mi_k202.1 (pc := 2) (ls := [(0, .ref 116), (1, .int x1)]) (st := [.int x1, .ref 116]) (h := ks i a q r) (i := (.invokevirtual 137, 3, 132, 0, 9, 0, 387)) (mi_k202.2 _ _ (by rfl)) (ft_invS mi_pq132 (by rfl)) (cy := mi_c132) mi_pq132 rfl (kc132_116 hG.I hG.R x1) (by decide) ?_
  intro vg1 hg1
  rcases hg1 with ⟨eg1, hg1⟩ | ⟨eg1, hg1⟩
  ·
    subst eg1
    have fi_7424 : ((0 : Int) ≤ (i 7424).toInt) ∧ ((i 7424).toInt ≤ 8) := hG.I.1 7424
    have z2 : ((0 : Int) ≤ x1.toInt) ∧ (x1.toInt < (i 7424).toInt) := hg1
    have hJ3 := kG_i hG 7467 rfl (v := 0) (kd_bd _)
    first | refine fo_goI mi_k202 fz202_5_6_17 [.int x1, .ref 116] (ku i 7467 0) (by rfl) ?_ | refine ft_go mi_k202 6 17 [(0, .ref 116), (1, .int x1)] [.int x1, .ref 116] (ku i 7467 0) a q r (by rfl) ?_
    refine ko_callI mi_k202.1 (pc := 17) (ls := [(0, .ref 116), (1, .int x1)]) (st := [.int x1, .ref 116]) (h := ks (ku i 7467 0) a q r) (i := (.invokevirtual 260, 3, 166, 0, 9, 0, 415)) (mi_k202.2 _ _ (by rfl)) (ft_invS mi_pq166 (by rfl)) (cy := mi_c166) mi_pq166 rfl (ke166_116 hJ3.I hJ3.R x1 (or558 fi_7424.2 z2.1 z2.2) (kCode_of (i1 := ku i 7467 0) hE_code (hJ3.fi 7432 rfl) (hJ3.fa 120 rfl) (hJ3.fa 121 rfl) (hJ3.fa 122 rfl) (hJ3.fa 123 rfl))) (by decide) ?_
    intro vg4 ig4 ag4 qg4 rg4 kg4 hg4
    have hGg4 := kG_call hJ3 kg4 (by decide +kernel)
    obtain ⟨hg4, og4⟩ := hg4
    have z5 : ((vg4.toInt = 1) ∧ (¬ ((((a 117).getD (16 + x1).toNatClampNeg 0).toInt = 1) ∧ ((i 7427).toInt = 0)))) ∨ ((vg4.toInt = 0) ∧ (((a 117).getD (16 + x1).toNatClampNeg 0).toInt = 1) ∧ ((i 7427).toInt = 0)) := hg4
    have qc6 : ¬ ((((a 117).getD (16 + x1).toNatClampNeg 0).toInt = 1) ∧ ((i 7427).toInt = 0)) → ag4 118 = sCome x1 (gBuy (i 7431) (a 120) (a 121) (a 122) (a 123) (i 7432) (a 117) (a 118) (gPaid (i 7426) x1 (a 118) ((0 : Int32)) (a 141)).1 x1) (gPaid (i 7426) x1 (a 118) ((0 : Int32)) (a 141)).1 := og4.1
    have qc7 : ¬ ((((a 117).getD (16 + x1).toNatClampNeg 0).toInt = 1) ∧ ((i 7427).toInt = 0)) → ig4 7464 = (gPaid (i 7426) x1 (a 118) ((0 : Int32)) (a 141)).2.1 := og4.2.1
    have qc8 : ¬ ((((a 117).getD (16 + x1).toNatClampNeg 0).toInt = 1) ∧ ((i 7427).toInt = 0)) → ig4 7465 = (gPaid (i 7426) x1 (a 118) ((0 : Int32)) (a 141)).2.2.1 := og4.2.2.1
    have qc9 : ¬ ((((a 117).getD (16 + x1).toNatClampNeg 0).toInt = 1) ∧ ((i 7427).toInt = 0)) → ig4 7466 = (gBuy (i 7431) (a 120) (a 121) (a 122) (a 123) (i 7432) (a 117) (a 118) (gPaid (i 7426) x1 (a 118) ((0 : Int32)) (a 141)).1 x1) := og4.2.2.2.1
    have qc10 : ¬ ((((a 117).getD (16 + x1).toNatClampNeg 0).toInt = 1) ∧ ((i 7427).toInt = 0)) → ig4 7467 = (gPaid (i 7426) x1 (a 118) ((0 : Int32)) (a 141)).2.2.2.1 := og4.2.2.2.2.1
    have qc11 : ¬ ((((a 117).getD (16 + x1).toNatClampNeg 0).toInt = 1) ∧ ((i 7427).toInt = 0)) → ag4 141 = (gPaid (i 7426) x1 (a 118) ((0 : Int32)) (a 141)).2.2.2.2 := og4.2.2.2.2.2.1
    have qc12 : (((a 117).getD (16 + x1).toNatClampNeg 0).toInt = 1) ∧ ((i 7427).toInt = 0) → ag4 118 = a 118 := og4.2.2.2.2.2.2.1
    have qc13 : (((a 117).getD (16 + x1).toNatClampNeg 0).toInt = 1) ∧ ((i 7427).toInt = 0) → ig4 7464 = 8 := og4.2.2.2.2.2.2.2.1
    have qc14 : (((a 117).getD (16 + x1).toNatClampNeg 0).toInt = 1) ∧ ((i 7427).toInt = 0) → ig4 7465 = 0 := og4.2.2.2.2.2.2.2.2.1
    have qc15 : (((a 117).getD (16 + x1).toNatClampNeg 0).toInt = 1) ∧ ((i 7427).toInt = 0) → ig4 7466 = 0 := og4.2.2.2.2.2.2.2.2.2.1
    have qc16 : (((a 117).getD (16 + x1).toNatClampNeg 0).toInt = 1) ∧ ((i 7427).toInt = 0) → ig4 7467 = (0 : Int32) := og4.2.2.2.2.2.2.2.2.2.2.1
    have qc17 : (((a 117).getD (16 + x1).toNatClampNeg 0).toInt = 1) ∧ ((i 7427).toInt = 0) → ag4 141 = a 141 := og4.2.2.2.2.2.2.2.2.2.2.2
    refine ft_ifS mi_k202 (vg4 == 0) 33 23 [] (by rfl) (fun c => ?_) (fun c => ?_)
    ·
      have c18 : vg4.toInt = (0 : Int32).toInt := kd_eq c; clear c
      refine fo_goS mi_k202 fz202_33_4_39 [.int 1, .ref 130, .int 1, .ref 130] rfl ?_
      refine ko_iald3 mi_k202.1 (n := 5) (c := 5) (ax := (0, 0, 0, 0, 0)) (mi_k202.2 _ _ (by rfl)) (by rfl) (ksG130 _ _ _ _) (hGg4.I.2.1 130) rfl (or268 kor1) (or559 kor1) ?_
      have b19 : ((-2147483648 : Int) ≤ ((ag4 130).getD (1 : Int32).toNatClampNeg 0).toInt) ∧ (((ag4 130).getD (1 : Int32).toNatClampNeg 0).toInt ≤ 2147483647) := kd_bd ((ag4 130).getD (1 : Int32).toNatClampNeg 0)
      have b20 : ((-2147483648 : Int) ≤ (ig4 7465).toInt) ∧ ((ig4 7465).toInt ≤ 2147483647) := kd_bd (ig4 7465)
      refine fo_goS mi_k202 fz202_40_3_45 [.int (((ag4 130).getD (1 : Int32).toNatClampNeg 0) + (ig4 7465)), .int 1, .ref 130] rfl ?_
      refine ko_iast3 mi_k202.1 (n := 5) (c := 5) (ax := (0, 0, 0, 0, 0)) (mi_k202.2 _ _ (by rfl)) (by rfl) (ksG130 _ _ _ _) (ksA130 _ _ _ _) (hGg4.I.2.1 130) rfl (or268 kor1) (or559 kor1) ?_
      intro a21 ea21 fa21
      have hJ21 := kG_a3 hGg4 130 rfl ea21 fa21 (kd_bd _)
      refine fo_goS mi_k202 fz202_46_4_52 [.int 2, .ref 130, .int 2, .ref 130] rfl ?_
      refine ko_iald3 mi_k202.1 (n := 5) (c := 5) (ax := (0, 0, 0, 0, 0)) (mi_k202.2 _ _ (by rfl)) (by rfl) (ksG130 _ _ _ _) (hJ21.I.2.1 130) rfl (or391 kor2) (or560 kor2) ?_
      have b22 : ((-2147483648 : Int) ≤ ((a21 130).getD (2 : Int32).toNatClampNeg 0).toInt) ∧ (((a21 130).getD (2 : Int32).toNatClampNeg 0).toInt ≤ 2147483647) := kd_bd ((a21 130).getD (2 : Int32).toNatClampNeg 0)
      have b23 : ((-2147483648 : Int) ≤ (ig4 7467).toInt) ∧ ((ig4 7467).toInt ≤ 2147483647) := kd_bd (ig4 7467)
      refine fo_goS mi_k202 fz202_53_3_58 [.int (((a21 130).getD (2 : Int32).toNatClampNeg 0) + (ig4 7467)), .int 2, .ref 130] rfl ?_
      refine ko_iast3 mi_k202.1 (n := 5) (c := 5) (ax := (0, 0, 0, 0, 0)) (mi_k202.2 _ _ (by rfl)) (by rfl) (ksG130 _ _ _ _) (ksA130 _ _ _ _) (hJ21.I.2.1 130) rfl (or391 kor2) (or560 kor2) ?_
      intro a24 ea24 fa24
      have hJ24 := kG_a3 hJ21 130 rfl ea24 fa24 (kd_bd _)
      refine ft_goS mi_k202 2 63 [.int (ig4 7465)] (by rfl) ?_
      exact ft_ret mi_k202 (by rfl) (hP (ig4 7465) _ _ _ _ hJ24 ⟨trivial, ⟨(fun h => absurd h (or562 c18 z5 kor0)), (fun h => absurd h (or562 c18 z5 kor0)), (fun h => absurd h (or562 c18 z5 kor0)), (fun _ => (show a24 118 = a 118 from (by first | rfl | (simp only [fa24 118 (by decide), fa21 118 (by decide), (qc12 (or561 c18 z5 kor0)), sMn, sMx]; done) | (simp only [fa24 118 (by decide), fa21 118 (by decide), (qc12 (or561 c18 z5 kor0)), sMn, sMx]; rfl)))), (fun _ => (show a24 130 = (((a 130).set (1 : Int32).toNatClampNeg ((a 130).getD (1 : Int32).toNatClampNeg 0 + 0)).set (2 : Int32).toNatClampNeg (((a 130).set (1 : Int32).toNatClampNeg ((a 130).getD (1 : Int32).toNatClampNeg 0 + 0)).getD (2 : Int32).toNatClampNeg 0 + 0)) from (by first | rfl | (simp only [ea24, ea21, (qc16 (or561 c18 z5 kor0)), kg4.fa 130 rfl, (qc14 (or561 c18 z5 kor0)), sMn, sMx]; done) | (simp only [ea24, ea21, (qc16 (or561 c18 z5 kor0)), kg4.fa 130 rfl, (qc14 (or561 c18 z5 kor0)), sMn, sMx]; rfl)))), (fun _ => (show (ig4 7465) = 0 from (by first | rfl | (simp only [(qc14 (or561 c18 z5 kor0)), sMn, sMx]; done) | (simp only [(qc14 (or561 c18 z5 kor0)), sMn, sMx]; rfl)))), (fun h => absurd (or563 z2.1 z2.2) h), (fun h => absurd (or563 z2.1 z2.2) h), (fun h => absurd (or563 z2.1 z2.2) h)⟩⟩)
    ·
      have c25 : vg4.toInt ≠ (0 : Int32).toInt := kd_eqF c; clear c
      refine ft_goS mi_k202 4 29 [.int 0, .ref 130, .int 0, .ref 130] (by rfl) ?_
      refine ko_iald3 mi_k202.1 (n := 5) (c := 5) (ax := (0, 0, 0, 0, 0)) (mi_k202.2 _ _ (by rfl)) (by rfl) (ksG130 _ _ _ _) (hGg4.I.2.1 130) rfl (or284 kor0) (or286 kor0) ?_
      have b26 : ((-2147483648 : Int) ≤ ((ag4 130).getD (0 : Int32).toNatClampNeg 0).toInt) ∧ (((ag4 130).getD (0 : Int32).toNatClampNeg 0).toInt ≤ 2147483647) := kd_bd ((ag4 130).getD (0 : Int32).toNatClampNeg 0)
      refine ft_goS mi_k202 2 32 [.int (((ag4 130).getD (0 : Int32).toNatClampNeg 0) + 1), .int 0, .ref 130] (by rfl) ?_
      refine ko_iast3 mi_k202.1 (n := 5) (c := 5) (ax := (0, 0, 0, 0, 0)) (mi_k202.2 _ _ (by rfl)) (by rfl) (ksG130 _ _ _ _) (ksA130 _ _ _ _) (hGg4.I.2.1 130) rfl (or284 kor0) (or286 kor0) ?_
      intro a27 ea27 fa27
      have hJ27 := kG_a3 hGg4 130 rfl ea27 fa27 (kd_bd _)
      refine fo_goS mi_k202 fz202_33_4_39 [.int 1, .ref 130, .int 1, .ref 130] rfl ?_
      refine ko_iald3 mi_k202.1 (n := 5) (c := 5) (ax := (0, 0, 0, 0, 0)) (mi_k202.2 _ _ (by rfl)) (by rfl) (ksG130 _ _ _ _) (hJ27.I.2.1 130) rfl (or268 kor1) (or559 kor1) ?_
      have b28 : ((-2147483648 : Int) ≤ ((a27 130).getD (1 : Int32).toNatClampNeg 0).toInt) ∧ (((a27 130).getD (1 : Int32).toNatClampNeg 0).toInt ≤ 2147483647) := kd_bd ((a27 130).getD (1 : Int32).toNatClampNeg 0)
      have b29 : ((-2147483648 : Int) ≤ (ig4 7465).toInt) ∧ ((ig4 7465).toInt ≤ 2147483647) := kd_bd (ig4 7465)
      refine fo_goS mi_k202 fz202_40_3_45 [.int (((a27 130).getD (1 : Int32).toNatClampNeg 0) + (ig4 7465)), .int 1, .ref 130] rfl ?_
      refine ko_iast3 mi_k202.1 (n := 5) (c := 5) (ax := (0, 0, 0, 0, 0)) (mi_k202.2 _ _ (by rfl)) (by rfl) (ksG130 _ _ _ _) (ksA130 _ _ _ _) (hJ27.I.2.1 130) rfl (or268 kor1) (or559 kor1) ?_
      intro a30 ea30 fa30
      have hJ30 := kG_a3 hJ27 130 rfl ea30 fa30 (kd_bd _)
      refine fo_goS mi_k202 fz202_46_4_52 [.int 2, .ref 130, .int 2, .ref 130] rfl ?_
      refine ko_iald3 mi_k202.1 (n := 5) (c := 5) (ax := (0, 0, 0, 0, 0)) (mi_k202.2 _ _ (by rfl)) (by rfl) (ksG130 _ _ _ _) (hJ30.I.2.1 130) rfl (or391 kor2) (or560 kor2) ?_
      have b31 : ((-2147483648 : Int) ≤ ((a30 130).getD (2 : Int32).toNatClampNeg 0).toInt) ∧ (((a30 130).getD (2 : Int32).toNatClampNeg 0).toInt ≤ 2147483647) := kd_bd ((a30 130).getD (2 : Int32).toNatClampNeg 0)
      have b32 : ((-2147483648 : Int) ≤ (ig4 7467).toInt) ∧ ((ig4 7467).toInt ≤ 2147483647) := kd_bd (ig4 7467)
      refine fo_goS mi_k202 fz202_53_3_58 [.int (((a30 130).getD (2 : Int32).toNatClampNeg 0) + (ig4 7467)), .int 2, .ref 130] rfl ?_
      refine ko_iast3 mi_k202.1 (n := 5) (c := 5) (ax := (0, 0, 0, 0, 0)) (mi_k202.2 _ _ (by rfl)) (by rfl) (ksG130 _ _ _ _) (ksA130 _ _ _ _) (hJ30.I.2.1 130) rfl (or391 kor2) (or560 kor2) ?_
      intro a33 ea33 fa33
      have hJ33 := kG_a3 hJ30 130 rfl ea33 fa33 (kd_bd _)
      refine ft_goS mi_k202 2 63 [.int (ig4 7465)] (by rfl) ?_
      exact ft_ret mi_k202 (by rfl) (hP (ig4 7465) _ _ _ _ hJ33 ⟨trivial, ⟨(fun _ => (show a33 118 = sCome x1 (gBuy (i 7431) (a 120) (a 121) (a 122) (a 123) (i 7432) (a 117) (a 118) (gPaid (i 7426) x1 (a 118) 0 (a 141)).1 x1) (gPaid (i 7426) x1 (a 118) 0 (a 141)).1 from (by first | rfl | (simp only [fa33 118 (by decide), fa30 118 (by decide), fa27 118 (by decide), (qc6 (or564 c25 z5 kor0)), sMn, sMx]; done) | (simp only [fa33 118 (by decide), fa30 118 (by decide), fa27 118 (by decide), (qc6 (or564 c25 z5 kor0)), sMn, sMx]; rfl)))), (fun _ => (show a33 130 = ((((a 130).set (0 : Int32).toNatClampNeg ((a 130).getD (0 : Int32).toNatClampNeg 0 + 1)).set (1 : Int32).toNatClampNeg (((a 130).set (0 : Int32).toNatClampNeg ((a 130).getD (0 : Int32).toNatClampNeg 0 + 1)).getD (1 : Int32).toNatClampNeg 0 + (gPaid (i 7426) x1 (a 118) 0 (a 141)).2.2.1)).set (2 : Int32).toNatClampNeg ((((a 130).set (0 : Int32).toNatClampNeg ((a 130).getD (0 : Int32).toNatClampNeg 0 + 1)).set (1 : Int32).toNatClampNeg (((a 130).set (0 : Int32).toNatClampNeg ((a 130).getD (0 : Int32).toNatClampNeg 0 + 1)).getD (1 : Int32).toNatClampNeg 0 + (gPaid (i 7426) x1 (a 118) 0 (a 141)).2.2.1)).getD (2 : Int32).toNatClampNeg 0 + (gPaid (i 7426) x1 (a 118) 0 (a 141)).2.2.2.1)) from (by first | rfl | (simp only [ea33, ea30, (qc10 (or564 c25 z5 kor0)), ea27, (qc8 (or564 c25 z5 kor0)), kg4.fa 130 rfl, sMn, sMx]; done) | (simp only [ea33, ea30, (qc10 (or564 c25 z5 kor0)), ea27, (qc8 (or564 c25 z5 kor0)), kg4.fa 130 rfl, sMn, sMx]; rfl)))), (fun _ => (show (ig4 7465) = (gPaid (i 7426) x1 (a 118) 0 (a 141)).2.2.1 from (by first | rfl | (simp only [(qc8 (or564 c25 z5 kor0)), sMn, sMx]; done) | (simp only [(qc8 (or564 c25 z5 kor0)), sMn, sMx]; rfl)))), (fun h => absurd h (or565 c25 z5 kor0)), (fun h => absurd h (or565 c25 z5 kor0)), (fun h => absurd h (or565 c25 z5 kor0)), (fun h => absurd (or563 z2.1 z2.2) h), (fun h => absurd (or563 z2.1 z2.2) h), (fun h => absurd (or563 z2.1 z2.2) h)⟩⟩)
  ·
    subst eg1
    have z34 : ¬ (((0 : Int) ≤ x1.toInt) ∧ (x1.toInt < (i 7424).toInt)) := hg1
    refine ft_goS mi_k202 2 9 [.int (-1)] (by rfl) ?_
    exact ft_ret mi_k202 (by rfl) (hP (-1) _ _ _ _ hG ⟨trivial, ⟨(fun h => absurd h (or566 z34)), (fun h => absurd h (or566 z34)), (fun h => absurd h (or566 z34)), (fun h => absurd h (or567 z34)), (fun h => absurd h (or567 z34)), (fun h => absurd h (or567 z34)), (fun _ => (show a 118 = a 118 from rfl)), (fun _ => (show a 130 = a 130 from rfl)), (fun _ => (show ((-1) : Int32) = -1 from (by first | rfl | (simp only [sMn, sMx]; done) | (simp only [sMn, sMx]; rfl))))⟩⟩)
noncomputable def yw102_0 : kW := ([73, 78, 79, 80, 450, 645, 6405], [2, 6, 8, 9, 13, 14, 16, 17, 18, 19, 20, 21, 22, 23, 24, 103], [], [])
set_option maxRecDepth 100000 in
theorem ke102_0 {i : Nat → Int32} {a : Nat → List Int32} {q : Nat → List Int64} {r : Nat → Nat} (hI : kI i a q) (hr : kr r) (x1 : Int32) (hp0 : ((1 : Int) ≤ (i 70).toInt) ∧ ((i 70).toInt ≤ 5)) : km 9 102 [.ref 0, .int x1] (ks i a q r) (kVI yw102_0 i a q r (fun v i1 a1 q1 r1 => (True) ∧ ((((0 : Int) ≤ x1.toInt) ∧ (x1.toInt < (i 64).toInt) ∧ (¬ (((i 71).toInt = 0) ∧ (((a 5).getD x1.toNatClampNeg 0).toInt = 1))) → i1 450 = (cPaid (i 64) (i 70) x1 5 (cT0 1 i a)).1 + 1) ∧ (((0 : Int) ≤ x1.toInt) ∧ (x1.toInt < (i 64).toInt) ∧ (¬ (((i 71).toInt = 0) ∧ (((a 5).getD x1.toNatClampNeg 0).toInt = 1))) → a1 8 = (cPaid (i 64) (i 70) x1 5 (cT0 1 i a)).2.1.set (cPaid (i 64) (i 70) x1 5 (cT0 1 i a)).1.toNatClampNeg x1) ∧ (((0 : Int) ≤ x1.toInt) ∧ (x1.toInt < (i 64).toInt) ∧ (¬ (((i 71).toInt = 0) ∧ (((a 5).getD x1.toNatClampNeg 0).toInt = 1))) → a1 9 = (cPaid (i 64) (i 70) x1 5 (cT0 1 i a)).2.2.1.set (cPaid (i 64) (i 70) x1 5 (cT0 1 i a)).1.toNatClampNeg (cBuyV (i (64 * r 0)) (a (r 0 + 1)) (a (r 0 + 2)) (a (r 0 + 3)) (i (64 * r 0 + 3)) ((a 3).getD x1.toNatClampNeg 0) ((a 2).getD x1.toNatClampNeg 0) ((a 4).getD x1.toNatClampNeg 0) (i 73) ((a 6).getD x1.toNatClampNeg 0) (i 72))) ∧ (((0 : Int) ≤ x1.toInt) ∧ (x1.toInt < (i 64).toInt) ∧ (¬ (((i 71).toInt = 0) ∧ (((a 5).getD x1.toNatClampNeg 0).toInt = 1))) → a1 2 = (cPaid (i 64) (i 70) x1 5 (cT0 1 i a)).2.2.2.1) ∧ (((0 : Int) ≤ x1.toInt) ∧ (x1.toInt < (i 64).toInt) ∧ (¬ (((i 71).toInt = 0) ∧ (((a 5).getD x1.toNatClampNeg 0).toInt = 1))) → i1 73 = i 73 + 1) ∧ (((0 : Int) ≤ x1.toInt) ∧ (x1.toInt < (i 64).toInt) ∧ (¬ (((i 71).toInt = 0) ∧ (((a 5).getD x1.toNatClampNeg 0).toInt = 1))) → a1 6 = (a 6).set x1.toNatClampNeg ((a 6).getD x1.toNatClampNeg 0 + 1)) ∧ (((0 : Int) ≤ x1.toInt) ∧ (x1.toInt < (i 64).toInt) ∧ (¬ (((i 71).toInt = 0) ∧ (((a 5).getD x1.toNatClampNeg 0).toInt = 1))) → a1 14 = ((cPaid (i 64) (i 70) x1 5 (cT0 1 i a)).2.2.2.2.2.2.1.set (0 : Int32).toNatClampNeg ((cPaid (i 64) (i 70) x1 5 (cT0 1 i a)).2.2.2.2.2.2.1.getD (0 : Int32).toNatClampNeg 0 + 1)).set (1 : Int32).toNatClampNeg (((cPaid (i 64) (i 70) x1 5 (cT0 1 i a)).2.2.2.2.2.2.1.set (0 : Int32).toNatClampNeg ((cPaid (i 64) (i 70) x1 5 (cT0 1 i a)).2.2.2.2.2.2.1.getD (0 : Int32).toNatClampNeg 0 + 1)).getD (1 : Int32).toNatClampNeg 0 + (cPaid (i 64) (i 70) x1 5 (cT0 1 i a)).2.2.2.2.2.1)) ∧ (((0 : Int) ≤ x1.toInt) ∧ (x1.toInt < (i 64).toInt) ∧ (¬ (((i 71).toInt = 0) ∧ (((a 5).getD x1.toNatClampNeg 0).toInt = 1))) → v = (cPaid (i 64) (i 70) x1 5 (cT0 1 i a)).2.2.2.2.2.1) ∧ (¬ (((0 : Int) ≤ x1.toInt) ∧ (x1.toInt < (i 64).toInt) ∧ (¬ (((i 71).toInt = 0) ∧ (((a 5).getD x1.toNatClampNeg 0).toInt = 1)))) → i1 450 = i 450) ∧ (¬ (((0 : Int) ≤ x1.toInt) ∧ (x1.toInt < (i 64).toInt) ∧ (¬ (((i 71).toInt = 0) ∧ (((a 5).getD x1.toNatClampNeg 0).toInt = 1)))) → a1 8 = a 8) ∧ (¬ (((0 : Int) ≤ x1.toInt) ∧ (x1.toInt < (i 64).toInt) ∧ (¬ (((i 71).toInt = 0) ∧ (((a 5).getD x1.toNatClampNeg 0).toInt = 1)))) → a1 9 = a 9) ∧ (¬ (((0 : Int) ≤ x1.toInt) ∧ (x1.toInt < (i 64).toInt) ∧ (¬ (((i 71).toInt = 0) ∧ (((a 5).getD x1.toNatClampNeg 0).toInt = 1)))) → a1 2 = a 2) ∧ (¬ (((0 : Int) ≤ x1.toInt) ∧ (x1.toInt < (i 64).toInt) ∧ (¬ (((i 71).toInt = 0) ∧ (((a 5).getD x1.toNatClampNeg 0).toInt = 1)))) → i1 73 = i 73) ∧ (¬ (((0 : Int) ≤ x1.toInt) ∧ (x1.toInt < (i 64).toInt) ∧ (¬ (((i 71).toInt = 0) ∧ (((a 5).getD x1.toNatClampNeg 0).toInt = 1)))) → a1 6 = a 6) ∧ (¬ (((0 : Int) ≤ x1.toInt) ∧ (x1.toInt < (i 64).toInt) ∧ (¬ (((i 71).toInt = 0) ∧ (((a 5).getD x1.toNatClampNeg 0).toInt = 1)))) → a1 14 = a 14) ∧ (((0 : Int) ≤ x1.toInt) ∧ (x1.toInt < (i 64).toInt) ∧ ((i 71).toInt = 0) ∧ (((a 5).getD x1.toNatClampNeg 0).toInt = 1) → v = 0) ∧ (¬ (((0 : Int) ≤ x1.toInt) ∧ (x1.toInt < (i 64).toInt)) → v = -1)))) := by
  have hG := kG_self yw102_0 hI hr
  refine km_ofI (q := (mi_h102, mi_c102)) rfl (by decide) (Nat.le_of_ble_eq_true rfl) ?_
  intro P hP
  refine ft_goL mi_k102 2 2 [(0, .ref 0), (1, .int x1)] [.int x1, .ref 0] (by rfl) ?_
  refine ko_callPI mi_k102.1 (pc := 2) (ls := [(0, .ref 0), (1, .int x1)]) (st := [.int x1, .ref 0]) (h := ks i a q r) (i := (.invokevirtual 141, 3, 123, 0, 9, 0, 162)) (mi_k102.2 _ _ (by rfl)) (ft_invS mi_pq123 (by rfl)) (cy := mi_c123) mi_pq123 rfl (kc123_0 hG.I hG.R x1) (by decide) ?_
  intro vg1 hg1
  rcases hg1 with ⟨eg1, hg1⟩ | ⟨eg1, hg1⟩
  ·
    subst eg1
    have z2 : ((0 : Int) ≤ x1.toInt) ∧ (x1.toInt < (i 64).toInt) := hg1
    refine ft_goS mi_k102 4 13 [.int x1, .ref 1] (by rfl) ?_
    refine ko_callI mi_k102.1 (pc := 13) (ls := [(0, .ref 0), (1, .int x1)]) (st := [.int x1, .ref 1]) (h := ks i a q r) (i := (.invokevirtual 255, 3, 29, 0, 9, 0, 281)) (mi_k102.2 _ _ (by rfl)) (ft_invS mi_pq29 (by rfl)) (cy := mi_c29) mi_pq29 rfl (ke29_1 hG.I hG.R x1 (or718 hp0.1 hp0.2)) (by decide) ?_
    intro vg3 ig3 ag3 qg3 rg3 kg3 hg3
    have hGg3 := kG_call hG kg3 (by decide +kernel)
    obtain ⟨hg3, og3⟩ := hg3
    have qc4 : ((0 : Int) ≤ x1.toInt) ∧ (x1.toInt < (i 64).toInt) ∧ (¬ (((i 71).toInt = 0) ∧ (((a 5).getD x1.toNatClampNeg 0).toInt = 1))) → ig3 450 = (cPaid (i 64) (i 70) x1 5 (cT0 1 i a)).1 + 1 := og3.1
    have qc5 : ((0 : Int) ≤ x1.toInt) ∧ (x1.toInt < (i 64).toInt) ∧ (¬ (((i 71).toInt = 0) ∧ (((a 5).getD x1.toNatClampNeg 0).toInt = 1))) → ag3 8 = (cPaid (i 64) (i 70) x1 5 (cT0 1 i a)).2.1.set (cPaid (i 64) (i 70) x1 5 (cT0 1 i a)).1.toNatClampNeg x1 := og3.2.1
    have qc6 : ((0 : Int) ≤ x1.toInt) ∧ (x1.toInt < (i 64).toInt) ∧ (¬ (((i 71).toInt = 0) ∧ (((a 5).getD x1.toNatClampNeg 0).toInt = 1))) → ag3 9 = (cPaid (i 64) (i 70) x1 5 (cT0 1 i a)).2.2.1.set (cPaid (i 64) (i 70) x1 5 (cT0 1 i a)).1.toNatClampNeg (cBuyV (i (64 * r 0)) (a (r 0 + 1)) (a (r 0 + 2)) (a (r 0 + 3)) (i (64 * r 0 + 3)) ((a 3).getD x1.toNatClampNeg 0) ((a 2).getD x1.toNatClampNeg 0) ((a 4).getD x1.toNatClampNeg 0) (i 73) ((a 6).getD x1.toNatClampNeg 0) (i 72)) := og3.2.2.1
    have qc7 : ((0 : Int) ≤ x1.toInt) ∧ (x1.toInt < (i 64).toInt) ∧ (¬ (((i 71).toInt = 0) ∧ (((a 5).getD x1.toNatClampNeg 0).toInt = 1))) → ag3 2 = (cPaid (i 64) (i 70) x1 5 (cT0 1 i a)).2.2.2.1 := og3.2.2.2.1
    have qc8 : ((0 : Int) ≤ x1.toInt) ∧ (x1.toInt < (i 64).toInt) ∧ (¬ (((i 71).toInt = 0) ∧ (((a 5).getD x1.toNatClampNeg 0).toInt = 1))) → ig3 78 = (cPaid (i 64) (i 70) x1 5 (cT0 1 i a)).2.2.2.2.1 := og3.2.2.2.2.1
    have qc9 : ((0 : Int) ≤ x1.toInt) ∧ (x1.toInt < (i 64).toInt) ∧ (¬ (((i 71).toInt = 0) ∧ (((a 5).getD x1.toNatClampNeg 0).toInt = 1))) → ig3 79 = (cPaid (i 64) (i 70) x1 5 (cT0 1 i a)).2.2.2.2.2.1 := og3.2.2.2.2.2.1
    have qc10 : ((0 : Int) ≤ x1.toInt) ∧ (x1.toInt < (i 64).toInt) ∧ (¬ (((i 71).toInt = 0) ∧ (((a 5).getD x1.toNatClampNeg 0).toInt = 1))) → ig3 80 = (cBuyV (i (64 * r 0)) (a (r 0 + 1)) (a (r 0 + 2)) (a (r 0 + 3)) (i (64 * r 0 + 3)) ((a 3).getD x1.toNatClampNeg 0) ((a 2).getD x1.toNatClampNeg 0) ((a 4).getD x1.toNatClampNeg 0) (i 73) ((a 6).getD x1.toNatClampNeg 0) (i 72)) := og3.2.2.2.2.2.2.1
    have qc11 : ((0 : Int) ≤ x1.toInt) ∧ (x1.toInt < (i 64).toInt) ∧ (¬ (((i 71).toInt = 0) ∧ (((a 5).getD x1.toNatClampNeg 0).toInt = 1))) → ig3 73 = i 73 + 1 := og3.2.2.2.2.2.2.2.1
    have qc12 : ((0 : Int) ≤ x1.toInt) ∧ (x1.toInt < (i 64).toInt) ∧ (¬ (((i 71).toInt = 0) ∧ (((a 5).getD x1.toNatClampNeg 0).toInt = 1))) → ag3 6 = (a 6).set x1.toNatClampNeg ((a 6).getD x1.toNatClampNeg 0 + 1) := og3.2.2.2.2.2.2.2.2.1
    have qc13 : ((0 : Int) ≤ x1.toInt) ∧ (x1.toInt < (i 64).toInt) ∧ (¬ (((i 71).toInt = 0) ∧ (((a 5).getD x1.toNatClampNeg 0).toInt = 1))) → ag3 14 = ((cPaid (i 64) (i 70) x1 5 (cT0 1 i a)).2.2.2.2.2.2.1.set (0 : Int32).toNatClampNeg ((cPaid (i 64) (i 70) x1 5 (cT0 1 i a)).2.2.2.2.2.2.1.getD (0 : Int32).toNatClampNeg 0 + 1)).set (1 : Int32).toNatClampNeg (((cPaid (i 64) (i 70) x1 5 (cT0 1 i a)).2.2.2.2.2.2.1.set (0 : Int32).toNatClampNeg ((cPaid (i 64) (i 70) x1 5 (cT0 1 i a)).2.2.2.2.2.2.1.getD (0 : Int32).toNatClampNeg 0 + 1)).getD (1 : Int32).toNatClampNeg 0 + (cPaid (i 64) (i 70) x1 5 (cT0 1 i a)).2.2.2.2.2.1) := og3.2.2.2.2.2.2.2.2.2.1
    have qc14 : ((0 : Int) ≤ x1.toInt) ∧ (x1.toInt < (i 64).toInt) ∧ (¬ (((i 71).toInt = 0) ∧ (((a 5).getD x1.toNatClampNeg 0).toInt = 1))) → vg3 = (cPaid (i 64) (i 70) x1 5 (cT0 1 i a)).2.2.2.2.2.1 := og3.2.2.2.2.2.2.2.2.2.2.1
    have qc15 : ((0 : Int) ≤ x1.toInt) ∧ (x1.toInt < (i 64).toInt) ∧ (¬ (((i 71).toInt = 0) ∧ (((a 5).getD x1.toNatClampNeg 0).toInt = 1))) → ag3 16 = (cPaid (i 64) (i 70) x1 5 (cT0 1 i a)).2.2.2.2.2.2.2 0 := og3.2.2.2.2.2.2.2.2.2.2.2.1
    have qc16 : ((0 : Int) ≤ x1.toInt) ∧ (x1.toInt < (i 64).toInt) ∧ (¬ (((i 71).toInt = 0) ∧ (((a 5).getD x1.toNatClampNeg 0).toInt = 1))) → ag3 17 = (cPaid (i 64) (i 70) x1 5 (cT0 1 i a)).2.2.2.2.2.2.2 1 := og3.2.2.2.2.2.2.2.2.2.2.2.2.1
    have qc17 : ((0 : Int) ≤ x1.toInt) ∧ (x1.toInt < (i 64).toInt) ∧ (¬ (((i 71).toInt = 0) ∧ (((a 5).getD x1.toNatClampNeg 0).toInt = 1))) → ag3 18 = (cPaid (i 64) (i 70) x1 5 (cT0 1 i a)).2.2.2.2.2.2.2 2 := og3.2.2.2.2.2.2.2.2.2.2.2.2.2.1
    have qc18 : ((0 : Int) ≤ x1.toInt) ∧ (x1.toInt < (i 64).toInt) ∧ (¬ (((i 71).toInt = 0) ∧ (((a 5).getD x1.toNatClampNeg 0).toInt = 1))) → ag3 19 = (cPaid (i 64) (i 70) x1 5 (cT0 1 i a)).2.2.2.2.2.2.2 3 := og3.2.2.2.2.2.2.2.2.2.2.2.2.2.2.1
    have qc19 : ((0 : Int) ≤ x1.toInt) ∧ (x1.toInt < (i 64).toInt) ∧ (¬ (((i 71).toInt = 0) ∧ (((a 5).getD x1.toNatClampNeg 0).toInt = 1))) → ag3 20 = (cPaid (i 64) (i 70) x1 5 (cT0 1 i a)).2.2.2.2.2.2.2 4 := og3.2.2.2.2.2.2.2.2.2.2.2.2.2.2.2.1
    have qc20 : ((0 : Int) ≤ x1.toInt) ∧ (x1.toInt < (i 64).toInt) ∧ (¬ (((i 71).toInt = 0) ∧ (((a 5).getD x1.toNatClampNeg 0).toInt = 1))) → ag3 21 = (cPaid (i 64) (i 70) x1 5 (cT0 1 i a)).2.2.2.2.2.2.2 5 := og3.2.2.2.2.2.2.2.2.2.2.2.2.2.2.2.2.1
    have qc21 : ((0 : Int) ≤ x1.toInt) ∧ (x1.toInt < (i 64).toInt) ∧ (¬ (((i 71).toInt = 0) ∧ (((a 5).getD x1.toNatClampNeg 0).toInt = 1))) → ag3 22 = (cPaid (i 64) (i 70) x1 5 (cT0 1 i a)).2.2.2.2.2.2.2 6 := og3.2.2.2.2.2.2.2.2.2.2.2.2.2.2.2.2.2.1
    have qc22 : ((0 : Int) ≤ x1.toInt) ∧ (x1.toInt < (i 64).toInt) ∧ (¬ (((i 71).toInt = 0) ∧ (((a 5).getD x1.toNatClampNeg 0).toInt = 1))) → ag3 23 = (cPaid (i 64) (i 70) x1 5 (cT0 1 i a)).2.2.2.2.2.2.2 7 := og3.2.2.2.2.2.2.2.2.2.2.2.2.2.2.2.2.2.2.1
    have qc23 : ¬ (((0 : Int) ≤ x1.toInt) ∧ (x1.toInt < (i 64).toInt) ∧ (¬ (((i 71).toInt = 0) ∧ (((a 5).getD x1.toNatClampNeg 0).toInt = 1)))) → ig3 450 = i 450 := og3.2.2.2.2.2.2.2.2.2.2.2.2.2.2.2.2.2.2.2.1
    have qc24 : ¬ (((0 : Int) ≤ x1.toInt) ∧ (x1.toInt < (i 64).toInt) ∧ (¬ (((i 71).toInt = 0) ∧ (((a 5).getD x1.toNatClampNeg 0).toInt = 1)))) → ag3 8 = a 8 := og3.2.2.2.2.2.2.2.2.2.2.2.2.2.2.2.2.2.2.2.2.1
    have qc25 : ¬ (((0 : Int) ≤ x1.toInt) ∧ (x1.toInt < (i 64).toInt) ∧ (¬ (((i 71).toInt = 0) ∧ (((a 5).getD x1.toNatClampNeg 0).toInt = 1)))) → ag3 9 = a 9 := og3.2.2.2.2.2.2.2.2.2.2.2.2.2.2.2.2.2.2.2.2.2.1
    have qc26 : ¬ (((0 : Int) ≤ x1.toInt) ∧ (x1.toInt < (i 64).toInt) ∧ (¬ (((i 71).toInt = 0) ∧ (((a 5).getD x1.toNatClampNeg 0).toInt = 1)))) → ag3 2 = a 2 := og3.2.2.2.2.2.2.2.2.2.2.2.2.2.2.2.2.2.2.2.2.2.2.1
    have qc27 : ¬ (((0 : Int) ≤ x1.toInt) ∧ (x1.toInt < (i 64).toInt) ∧ (¬ (((i 71).toInt = 0) ∧ (((a 5).getD x1.toNatClampNeg 0).toInt = 1)))) → ag3 6 = a 6 := og3.2.2.2.2.2.2.2.2.2.2.2.2.2.2.2.2.2.2.2.2.2.2.2.1
    have qc28 : ¬ (((0 : Int) ≤ x1.toInt) ∧ (x1.toInt < (i 64).toInt) ∧ (¬ (((i 71).toInt = 0) ∧ (((a 5).getD x1.toNatClampNeg 0).toInt = 1)))) → ag3 14 = a 14 := og3.2.2.2.2.2.2.2.2.2.2.2.2.2.2.2.2.2.2.2.2.2.2.2.2.1
    have qc29 : ¬ (((0 : Int) ≤ x1.toInt) ∧ (x1.toInt < (i 64).toInt) ∧ (¬ (((i 71).toInt = 0) ∧ (((a 5).getD x1.toNatClampNeg 0).toInt = 1)))) → ig3 78 = 8 := og3.2.2.2.2.2.2.2.2.2.2.2.2.2.2.2.2.2.2.2.2.2.2.2.2.2.1
    have qc30 : ¬ (((0 : Int) ≤ x1.toInt) ∧ (x1.toInt < (i 64).toInt) ∧ (¬ (((i 71).toInt = 0) ∧ (((a 5).getD x1.toNatClampNeg 0).toInt = 1)))) → ig3 79 = 0 := og3.2.2.2.2.2.2.2.2.2.2.2.2.2.2.2.2.2.2.2.2.2.2.2.2.2.2.1
    have qc31 : ¬ (((0 : Int) ≤ x1.toInt) ∧ (x1.toInt < (i 64).toInt) ∧ (¬ (((i 71).toInt = 0) ∧ (((a 5).getD x1.toNatClampNeg 0).toInt = 1)))) → ig3 80 = 0 := og3.2.2.2.2.2.2.2.2.2.2.2.2.2.2.2.2.2.2.2.2.2.2.2.2.2.2.2.1
    have qc32 : ¬ (((0 : Int) ≤ x1.toInt) ∧ (x1.toInt < (i 64).toInt) ∧ (¬ (((i 71).toInt = 0) ∧ (((a 5).getD x1.toNatClampNeg 0).toInt = 1)))) → ig3 73 = i 73 := og3.2.2.2.2.2.2.2.2.2.2.2.2.2.2.2.2.2.2.2.2.2.2.2.2.2.2.2.2.1
    have qc33 : ¬ (((0 : Int) ≤ x1.toInt) ∧ (x1.toInt < (i 64).toInt) ∧ (¬ (((i 71).toInt = 0) ∧ (((a 5).getD x1.toNatClampNeg 0).toInt = 1)))) → vg3 = 0 := og3.2.2.2.2.2.2.2.2.2.2.2.2.2.2.2.2.2.2.2.2.2.2.2.2.2.2.2.2.2.1
    have qc34 : ¬ (((0 : Int) ≤ x1.toInt) ∧ (x1.toInt < (i 64).toInt) ∧ (¬ (((i 71).toInt = 0) ∧ (((a 5).getD x1.toNatClampNeg 0).toInt = 1)))) → ag3 16 = a 16 := og3.2.2.2.2.2.2.2.2.2.2.2.2.2.2.2.2.2.2.2.2.2.2.2.2.2.2.2.2.2.2.1
    have qc35 : ¬ (((0 : Int) ≤ x1.toInt) ∧ (x1.toInt < (i 64).toInt) ∧ (¬ (((i 71).toInt = 0) ∧ (((a 5).getD x1.toNatClampNeg 0).toInt = 1)))) → ag3 17 = a 17 := og3.2.2.2.2.2.2.2.2.2.2.2.2.2.2.2.2.2.2.2.2.2.2.2.2.2.2.2.2.2.2.2.1
    have qc36 : ¬ (((0 : Int) ≤ x1.toInt) ∧ (x1.toInt < (i 64).toInt) ∧ (¬ (((i 71).toInt = 0) ∧ (((a 5).getD x1.toNatClampNeg 0).toInt = 1)))) → ag3 18 = a 18 := og3.2.2.2.2.2.2.2.2.2.2.2.2.2.2.2.2.2.2.2.2.2.2.2.2.2.2.2.2.2.2.2.2.1
    have qc37 : ¬ (((0 : Int) ≤ x1.toInt) ∧ (x1.toInt < (i 64).toInt) ∧ (¬ (((i 71).toInt = 0) ∧ (((a 5).getD x1.toNatClampNeg 0).toInt = 1)))) → ag3 19 = a 19 := og3.2.2.2.2.2.2.2.2.2.2.2.2.2.2.2.2.2.2.2.2.2.2.2.2.2.2.2.2.2.2.2.2.2.1
    have qc38 : ¬ (((0 : Int) ≤ x1.toInt) ∧ (x1.toInt < (i 64).toInt) ∧ (¬ (((i 71).toInt = 0) ∧ (((a 5).getD x1.toNatClampNeg 0).toInt = 1)))) → ag3 20 = a 20 := og3.2.2.2.2.2.2.2.2.2.2.2.2.2.2.2.2.2.2.2.2.2.2.2.2.2.2.2.2.2.2.2.2.2.2.1
    have qc39 : ¬ (((0 : Int) ≤ x1.toInt) ∧ (x1.toInt < (i 64).toInt) ∧ (¬ (((i 71).toInt = 0) ∧ (((a 5).getD x1.toNatClampNeg 0).toInt = 1)))) → ag3 21 = a 21 := og3.2.2.2.2.2.2.2.2.2.2.2.2.2.2.2.2.2.2.2.2.2.2.2.2.2.2.2.2.2.2.2.2.2.2.2.1
    have qc40 : ¬ (((0 : Int) ≤ x1.toInt) ∧ (x1.toInt < (i 64).toInt) ∧ (¬ (((i 71).toInt = 0) ∧ (((a 5).getD x1.toNatClampNeg 0).toInt = 1)))) → ag3 22 = a 22 := og3.2.2.2.2.2.2.2.2.2.2.2.2.2.2.2.2.2.2.2.2.2.2.2.2.2.2.2.2.2.2.2.2.2.2.2.2.1
    have qc41 : ¬ (((0 : Int) ≤ x1.toInt) ∧ (x1.toInt < (i 64).toInt) ∧ (¬ (((i 71).toInt = 0) ∧ (((a 5).getD x1.toNatClampNeg 0).toInt = 1)))) → ag3 23 = a 23 := og3.2.2.2.2.2.2.2.2.2.2.2.2.2.2.2.2.2.2.2.2.2.2.2.2.2.2.2.2.2.2.2.2.2.2.2.2.2
    first | refine ft_goS mi_k102 1 20 [.int vg3] (by rfl) ?_
    exact ft_ret mi_k102 (by rfl) (hP vg3 _ _ _ _ hGg3 ⟨trivial, ⟨(fun hc => (show ig3 450 = (cPaid (i 64) (i 70) x1 5 (cT0 1 i a)).1 + 1 from (by first | rfl | (simp only [(qc4 (or719 hc.2.2 z2.1 z2.2)), sMn, sMx]; done) | (simp only [(qc4 (or719 hc.2.2 z2.1 z2.2)), sMn, sMx]; rfl)))), (fun hc => (show ag3 8 = (cPaid (i 64) (i 70) x1 5 (cT0 1 i a)).2.1.set (cPaid (i 64) (i 70) x1 5 (cT0 1 i a)).1.toNatClampNeg x1 from (by first | rfl | (simp only [(qc5 (or719 hc.2.2 z2.1 z2.2)), sMn, sMx]; done) | (simp only [(qc5 (or719 hc.2.2 z2.1 z2.2)), sMn, sMx]; rfl)))), (fun hc => (show ag3 9 = (cPaid (i 64) (i 70) x1 5 (cT0 1 i a)).2.2.1.set (cPaid (i 64) (i 70) x1 5 (cT0 1 i a)).1.toNatClampNeg (cBuyV (i (64 * r 0)) (a (r 0 + 1)) (a (r 0 + 2)) (a (r 0 + 3)) (i (64 * r 0 + 3)) ((a 3).getD x1.toNatClampNeg 0) ((a 2).getD x1.toNatClampNeg 0) ((a 4).getD x1.toNatClampNeg 0) (i 73) ((a 6).getD x1.toNatClampNeg 0) (i 72)) from (by first | rfl | (simp only [(qc6 (or719 hc.2.2 z2.1 z2.2)), sMn, sMx]; done) | (simp only [(qc6 (or719 hc.2.2 z2.1 z2.2)), sMn, sMx]; rfl)))), (fun hc => (show ag3 2 = (cPaid (i 64) (i 70) x1 5 (cT0 1 i a)).2.2.2.1 from (by first | rfl | (simp only [(qc7 (or719 hc.2.2 z2.1 z2.2)), sMn, sMx]; done) | (simp only [(qc7 (or719 hc.2.2 z2.1 z2.2)), sMn, sMx]; rfl)))), (fun hc => (show ig3 73 = i 73 + 1 from (by first | rfl | (simp only [(qc11 (or719 hc.2.2 z2.1 z2.2)), sMn, sMx]; done) | (simp only [(qc11 (or719 hc.2.2 z2.1 z2.2)), sMn, sMx]; rfl)))), (fun hc => (show ag3 6 = (a 6).set x1.toNatClampNeg ((a 6).getD x1.toNatClampNeg 0 + 1) from (by first | rfl | (simp only [(qc12 (or719 hc.2.2 z2.1 z2.2)), sMn, sMx]; done) | (simp only [(qc12 (or719 hc.2.2 z2.1 z2.2)), sMn, sMx]; rfl)))), (fun hc => (show ag3 14 = ((cPaid (i 64) (i 70) x1 5 (cT0 1 i a)).2.2.2.2.2.2.1.set (0 : Int32).toNatClampNeg ((cPaid (i 64) (i 70) x1 5 (cT0 1 i a)).2.2.2.2.2.2.1.getD (0 : Int32).toNatClampNeg 0 + 1)).set (1 : Int32).toNatClampNeg (((cPaid (i 64) (i 70) x1 5 (cT0 1 i a)).2.2.2.2.2.2.1.set (0 : Int32).toNatClampNeg ((cPaid (i 64) (i 70) x1 5 (cT0 1 i a)).2.2.2.2.2.2.1.getD (0 : Int32).toNatClampNeg 0 + 1)).getD (1 : Int32).toNatClampNeg 0 + (cPaid (i 64) (i 70) x1 5 (cT0 1 i a)).2.2.2.2.2.1) from (by first | rfl | (simp only [(qc13 (or719 hc.2.2 z2.1 z2.2)), sMn, sMx]; done) | (simp only [(qc13 (or719 hc.2.2 z2.1 z2.2)), sMn, sMx]; rfl)))), (fun hc => (show vg3 = (cPaid (i 64) (i 70) x1 5 (cT0 1 i a)).2.2.2.2.2.1 from (by first | rfl | (simp only [(qc14 (or719 hc.2.2 z2.1 z2.2)), sMn, sMx]; done) | (simp only [(qc14 (or719 hc.2.2 z2.1 z2.2)), sMn, sMx]; rfl)))), (fun hc => (show ig3 450 = i 450 from (by first | rfl | (simp only [(qc23 (or720 hc z2.1 z2.2)), sMn, sMx]; done) | (simp only [(qc23 (or720 hc z2.1 z2.2)), sMn, sMx]; rfl)))), (fun hc => (show ag3 8 = a 8 from (by first | rfl | (simp only [(qc24 (or720 hc z2.1 z2.2)), sMn, sMx]; done) | (simp only [(qc24 (or720 hc z2.1 z2.2)), sMn, sMx]; rfl)))), (fun hc => (show ag3 9 = a 9 from (by first | rfl | (simp only [(qc25 (or720 hc z2.1 z2.2)), sMn, sMx]; done) | (simp only [(qc25 (or720 hc z2.1 z2.2)), sMn, sMx]; rfl)))), (fun hc => (show ag3 2 = a 2 from (by first | rfl | (simp only [(qc26 (or720 hc z2.1 z2.2)), sMn, sMx]; done) | (simp only [(qc26 (or720 hc z2.1 z2.2)), sMn, sMx]; rfl)))), (fun hc => (show ig3 73 = i 73 from (by first | rfl | (simp only [(qc32 (or720 hc z2.1 z2.2)), sMn, sMx]; done) | (simp only [(qc32 (or720 hc z2.1 z2.2)), sMn, sMx]; rfl)))), (fun hc => (show ag3 6 = a 6 from (by first | rfl | (simp only [(qc27 (or720 hc z2.1 z2.2)), sMn, sMx]; done) | (simp only [(qc27 (or720 hc z2.1 z2.2)), sMn, sMx]; rfl)))), (fun hc => (show ag3 14 = a 14 from (by first | rfl | (simp only [(qc28 (or720 hc z2.1 z2.2)), sMn, sMx]; done) | (simp only [(qc28 (or720 hc z2.1 z2.2)), sMn, sMx]; rfl)))), (fun hc => (show vg3 = 0 from (by first | rfl | (simp only [(qc33 (or721 hc.2.2.1 hc.2.2.2)), sMn, sMx]; done) | (simp only [(qc33 (or721 hc.2.2.1 hc.2.2.2)), sMn, sMx]; rfl)))), (fun h => absurd (or563 z2.1 z2.2) h)⟩⟩)
  ·
    subst eg1
    have z42 : ¬ (((0 : Int) ≤ x1.toInt) ∧ (x1.toInt < (i 64).toInt)) := hg1
    first | refine ft_goS mi_k102 2 20 [.int (-1)] (by rfl) ?_
    exact ft_ret mi_k102 (by rfl) (hP (-1) _ _ _ _ hG ⟨trivial, ⟨(fun h => absurd h (or717 z42)), (fun h => absurd h (or717 z42)), (fun h => absurd h (or717 z42)), (fun h => absurd h (or717 z42)), (fun h => absurd h (or717 z42)), (fun h => absurd h (or717 z42)), (fun h => absurd h (or717 z42)), (fun h => absurd h (or717 z42)), (fun _ => (show i 450 = i 450 from rfl)), (fun _ => (show a 8 = a 8 from rfl)), (fun _ => (show a 9 = a 9 from rfl)), (fun _ => (show a 2 = a 2 from rfl)), (fun _ => (show i 73 = i 73 from rfl)), (fun _ => (show a 6 = a 6 from rfl)), (fun _ => (show a 14 = a 14 from rfl)), (fun h => absurd h (or722 z42)), (fun _ => (show ((-1) : Int32) = -1 from (by first | rfl | (simp only [sMn, sMx]; done) | (simp only [sMn, sMx]; rfl))))⟩⟩)
end
section
/-! what is kept by turns, and but for one place -/
noncomputable def kLow (b : Nat) (L L0 : List Int32) : Prop := ∀ j : Nat, j < b → L.getD j 0 = L0.getD j 0
theorem kLow_eq {b : Nat} {L L0 : List Int32} (e : L = L0) : kLow b L L0 := fun j _ => by rw [e]
theorem kLow_trans {b b1 : Nat} {L L1 L0 : List Int32} (h1 : kLow b L L1) (h2 : kLow b1 L1 L0) (hb : b ≤ b1) : kLow b L L0 := fun j hj => (h1 j hj).trans (h2 j (by omega))
theorem kLow_cast {b b1 : Nat} {L L1 K K1 : List Int32} (h : kLow b L K) (e1 : L1 = L) (e2 : K1 = K) (eb : b1 ≤ b) : kLow b1 L1 K1 := by
  subst e1
  subst e2
  exact fun j hj => h j (by omega)
theorem kLow_step {b : Nat} {L0 L1 L2 L : List Int32} {y : Int32} {v : Int32} (h : kLow b L0 L) (hy : (b : Int) ≤ y.toInt) (e : L1 = L0.set y.toNatClampNeg v) (e2 : L2 = L1) : kLow b L2 L := by
  have ty := Int32.toNat_toInt y
  subst e2
  subst e
  intro j hj
  rw [List.getD_eq_getElem?_getD, List.getElem?_set_ne (by omega), ← List.getD_eq_getElem?_getD]
  exact h j hj
theorem kCopd_cast {L L1 S S1 : List Int32} {b : Nat} {x y : Int} (h : kCopd L S b x) (e1 : L1 = L) (e2 : S1 = S) (hx : y ≤ x) : kCopd L1 S1 b y := by
  subst e1
  subst e2
  exact fun j hj => h j (by omega)
theorem kCopb_cast {L L1 S S1 : List Int32} {b : Nat} {x y : Int} (h : kCopb L S b x) (e1 : L1 = L) (e2 : S1 = S) (hx : y ≤ x) : kCopb L1 S1 b y := by
  subst e1
  subst e2
  exact fun j hj => h j (by omega)
theorem ca_end {F N L1 L2 L3 L4 L : List Int32} {b b1 b2 : Nat} (h1 : kCopd L1 N b 31) (h2 : kLow b L1 L) (e2 : L2 = L1) (h3 : kLow b1 L3 L2) (h4 : kCopb F L3 b 31) (e4 : L4 = L3) (hb : b1 = b + 31) (hb2 : b2 ≤ b) (lF : F.length = 31) (lN : N.length = 31) : F = N ∧ kLow b2 L4 L := by
  subst e2
  subst e4
  exact ⟨kListn lF lN (fun j hj => by rw [h4 j (by omega), h3 (b + j) (by omega), h1 j (by omega)]), fun j hj => (h3 j (by omega)).trans (h2 j (by omega))⟩
noncomputable def kExc (L L0 : List Int32) (k : Nat) : Prop := ∀ j : Nat, j ≠ k → L.getD j 0 = L0.getD j 0
theorem kExc_eq {L L0 : List Int32} {k : Nat} (e : L = L0) : kExc L L0 k := fun j _ => by rw [e]
theorem kExc_set {L L1 L2 L0 : List Int32} {k : Nat} {v : Int32} (h : kExc L L0 k) (e : L1 = L.set k v) (e2 : L2 = L1) : kExc L2 L0 k := by
  subst e2
  subst e
  intro j hj
  rw [List.getD_eq_getElem?_getD, List.getElem?_set_ne (fun z => hj z.symm), ← List.getD_eq_getElem?_getD]
  exact h j hj
theorem kExc_back {L L1 L2 L0 : List Int32} {k n : Nat} (h : kExc L L0 k) (e : L1 = L.set k (L0.getD k 0)) (e2 : L2 = L1) (hl : L.length = n) (h0 : L0.length = n) : L2 = L0 := by
  subst e2
  subst e
  refine kListn (n := n) (by rw [List.length_set]; exact hl) h0 (fun j hj => ?_)
  have eg : (L.set k (L0.getD k 0)).getD j 0 = if j = k then L0.getD k 0 else L.getD j 0 := by
    by_cases c : j = k
    · rw [if_pos c, List.getD_eq_getElem?_getD, c, List.getElem?_set_self (by omega)]; rfl
    · rw [if_neg c, List.getD_eq_getElem?_getD, List.getElem?_set_ne (fun z => c z.symm), ← List.getD_eq_getElem?_getD]
  rw [eg]
  by_cases c : j = k
  · rw [if_pos c, c]
  · rw [if_neg c]; exact h j c
end
section
theorem kos0 : (0 : Int32).toInt = 0 := by decide
theorem kos1 : (1 : Int32).toInt = 1 := by decide
theorem kosm1 : ((-1) : Int32).toInt = (-1) := by decide
theorem kos31 : (31 : Int32).toInt = 31 := by decide
theorem kos5 : (5 : Int32).toInt = 5 := by decide
theorem kos2 : (2 : Int32).toInt = 2 := by decide
theorem kos10 : (10 : Int32).toInt = 10 := by decide
theorem kos9 : (9 : Int32).toInt = 9 := by decide
theorem os0 {a0 : Int} (h0 : (0 : Int) ≤ a0) : (0 : Int) ≤ a0 := oz3 h0
theorem os1 {a0 : Int} (h0 : a0 ≤ 255) : a0 ≤ 255 := oz661 h0
theorem os2 {a0 a1 : Int} (h0 : a0 ≠ a1) (h1 : (0 : Int) ≤ a0) (h2 : a1 = 0) : a0 ≠ 0 := oz662 h0 h1 h2
theorem os3 {a0 a1 : Int} (h0 : a0 < a1) (h1 : a1 ≤ 8) : a0 ≤ 7 := oz512 h0 h1
theorem os4 {a0 a1 : Int} (h0 : a0 ≠ a1) (h1 : a1 = 0) : a0 ≠ 0 := oz295 h0 h1
theorem os5 {a0 a1 : Int} (h0 : (a0 + a1) ≤ 5) (h1 : (1 : Int) ≤ a1) : a0 < 5 := oz663 h0 h1
theorem os6 {a0 a1 : Int} (h0 : (0 : Int) ≤ a0) (h1 : a1 = 1) : (-2147483648 : Int) ≤ a0 + a1 := oz12 h0 h1
theorem os7 {a0 a1 a2 : Int} (h0 : (a0 + a1) ≤ 5) (h1 : (1 : Int) ≤ a1) (h2 : a2 = 1) : a0 + a2 ≤ 2147483647 := oz664 h0 h1 h2
theorem os8 {a0 a1 : Int} (h0 : a0 < a1) (h1 : a1 ≤ 8) : a0 ≤ 8 := oz513 h0 h1
theorem os9 {a0 a1 : Int} (h0 : a0 = a1) (h1 : (1 : Int) ≤ a0) : (1 : Int) ≤ a1 := oz665 h0 h1
theorem os10 {a0 a1 a2 : Int} (h0 : (0 : Int) ≤ a0) (h1 : a1 = a0 + a2) (h2 : a2 = 1) : (0 : Int) ≤ a1 := oz14 h0 h1 h2
theorem os11 {a0 : Int} (h0 : (0 : Int) ≤ a0) (h1 : a0 ≤ 255) : ((0 : Int) ≤ a0) ∧ (a0 ≤ 255) := oz666 h0 h1
theorem os12 {a0 : Int} (h0 : (0 : Int) ≤ a0) (h1 : a0 ≤ 7) : ((0 : Int) ≤ a0) ∧ (a0 ≤ 7) := oz181 h0 h1
theorem os13 {a0 a1 a2 a3 a4 : Int} (h0 : (a0 + a1) ≤ 5) (h1 : a2 = a1 - 1) (h2 : a3 = a0 + a4) (h3 : a4 = 1) : (a3 + a2) ≤ 5 := oz667 h0 h1 h2 h3
theorem os14 {a0 a1 a2 a3 : Int} (h0 : a0 = a1 + 1) (h1 : a2 = a0) (h2 : a3 = a2 - 1) : a3 = a1 := oz668 h0 h1 h2
theorem os15 {a0 a1 a2 : Int} (h0 : a0 < a1) (h1 : a1 ≤ 8) (h2 : a2 = 1) : a0 + a2 ≤ 2147483647 := oz442 h0 h1 h2
theorem os16 {a0 a1 a2 a3 a4 : Int} (h0 : a0 = a1) (h1 : a2 = a3 + a4) (h2 : a4 = 1) : (a0 - a2) < (a1 - a3) := oz308 h0 h1 h2
theorem os17 {a0 a1 : Int} (h0 : a0 < a1) : (1 : Int) ≤ (a1 - a0) := oz45 h0
theorem os18 {a0 a1 a2 a3 : Int} (h0 : a0 = a1 + a2) (h1 : a2 = 1) : (a3 - a0) < (a3 - a1) := oz44 h0 h1
theorem os19 {a0 : Int} (h0 : a0 = 0) : (0 : Int) ≤ a0 := oz46 h0
theorem os20 {a0 a1 a2 : Int} (h0 : (0 : Int) ≤ a0) (h1 : (a1 + a2) ≤ 5) (h2 : a2 = a0) : a1 ≤ 21 := oz669 h0 h1 h2
theorem os21 {a0 a1 : Int} (h0 : a0 ≤ a1) (h1 : a0 = 31) : 31 ≤ a1 := of0 h0 h1
theorem os24 {a0 a1 : Int} (h0 : a0 < a1) (h1 : a1 = 31) : a0 < 31 := oz228 h0 h1
theorem os29 {a0 a1 a2 : Int} (h0 : a0 < a1) (h1 : a1 = 31) (h2 : a2 = 1) : a0 + a2 ≤ 2147483647 := oz233 h0 h1 h2
theorem os31 {a0 : Int}  : a0 = a0 := oz34
theorem os32 {a0 a1 a2 : Int} (h0 : a0 = a1 + a2) (h1 : a2 = 1) : a0 = a1 + 1 := oz169 h0 h1
theorem os33 {a0 a1 a2 : Int} (h0 : a0 = a1 + a2) (h1 : a2 = 1) : (31 - a0) < (31 - a1) := oz234 h0 h1
theorem os34 {a0 a1 : Int} (h0 : a0 < a1) (h1 : a1 = 31) : (1 : Int) ≤ (31 - a0) := oz235 h0 h1
theorem os45 {a0 : Int} (h0 : a0 ≤ 7) : a0 < 31 := oz65 h0
theorem os50 {a0 : Int} (h0 : a0 ≤ 7) : a0 < 24 := oz248 h0
theorem os147 {a0 a1 : Int} (h0 : (1 : Int) ≤ a0) (h1 : a1 = 1) : (-2147483648 : Int) ≤ a0 - a1 := oz341 h0 h1
theorem os192 {a0 a1 a2 a3 : Int} (h0 : a0 < a1) (h1 : (0 : Int) ≤ a2) (h2 : (a1 + a3) ≤ 5) (h3 : a3 = a2) : a0 < 5 := oz670 h0 h1 h2 h3
theorem os193 {a0 a1 a2 a3 a4 : Int} (h0 : a0 < a1) (h1 : (0 : Int) ≤ a2) (h2 : (a1 + a3) ≤ 5) (h3 : a3 = a2) (h4 : a4 = 1) : a0 + a4 ≤ 2147483647 := oz671 h0 h1 h2 h3 h4
theorem os194 {a0 a1 a2 a3 : Int} (h0 : a0 < a1) (h1 : (0 : Int) ≤ a2) (h2 : (a1 + a3) ≤ 5) (h3 : a3 = a2) : a0 < 21 := oz672 h0 h1 h2 h3
theorem os195 {a0 : Int} (h0 : a0 ≤ 7) : a0 ≤ 7 := oz407 h0
theorem os196 {a0 : Int} (h0 : (0 : Int) ≤ a0) : (-2147483648 : Int) ≤ 31 * a0 := oz673 h0
theorem os197 {a0 a1 : Int} (h0 : a0 ≤ 5) (h1 : (a1 + 1) ≤ a0) : 31 * a1 ≤ 2147483647 := oz674 h0 h1
theorem os198 {a0 a1 : Int} (h0 : (0 : Int) ≤ a0) (h1 : (0 : Int) ≤ a1) : (-2147483648 : Int) ≤ a0 + a1 := oz675 h0 h1
theorem os199 {a0 a1 a2 : Int} (h0 : a0 < a1) (h1 : a2 ≤ 124) (h2 : a1 = 31) : a2 + a0 ≤ 2147483647 := oz676 h0 h1 h2
theorem os200 {a0 a1 a2 : Int} (h0 : (0 : Int) ≤ a0) (h1 : (0 : Int) ≤ a1) (h2 : a2 = a0 + a1) : (0 : Int) ≤ a2 := oz677 h0 h1 h2
theorem os201 {a0 a1 a2 a3 : Int} (h0 : a0 < a1) (h1 : a2 ≤ 124) (h2 : a3 = a2 + a0) (h3 : a1 = 31) : a3 < 155 := oz678 h0 h1 h2 h3
theorem os202 {a0 a1 a2 : Int} (h0 : (0 : Int) ≤ a0) (h1 : a1 = a0 + a2) : a1 = ((a0.toNat : Nat) : Int) + a2 := by omega
theorem os203 {a0 a1 a2 : Int} (h0 : (0 : Int) ≤ a0) (h1 : (0 : Int) ≤ a1) (h2 : a2 = a0 + a1) : ((a0.toNat : Nat) : Int) ≤ a2 := by omega
theorem os204 {a0 a1 a2 : Int} (h0 : (0 : Int) ≤ a0) (h1 : a1 ≤ 5) (h2 : (a0 + 1) ≤ a1) (h3 : a2 = 31 * a0) : ((0 : Int) ≤ a2) ∧ (a2 ≤ 124) := oz679 h0 h1 h2 h3
theorem os237 {a0 a1 : Int} (h0 : a0 = a1) : a0 = a1 := oz719 h0
theorem os263 {a0 a1 a2 : Int} (h0 : a0 ≤ 5) (h1 : (a1 + 1) ≤ a0) (h2 : a2 = 1) : a1 + a2 ≤ 2147483647 := oz680 h0 h1 h2
theorem os264 {a0 a1 a2 : Int} (h0 : (a0 - a1) = a2) (h1 : (a1 + 1) ≤ a0) : (1 : Int) ≤ a2 := oz681 h0 h1
theorem os265 {a0 a1 a2 a3 : Int} (h0 : (0 : Int) ≤ a0) (h1 : a1 ≤ 5) (h2 : (a0 + 1) ≤ a1) (h3 : a2 = a0 + a3) (h4 : a3 = 1) : ((0 : Int) ≤ a2) ∧ (a2 ≤ a1) ∧ (a1 ≤ 5) := oz682 h0 h1 h2 h3 h4
theorem os266 {a0 a1 a2 a3 a4 a5 : Int} (h0 : a0 = a1 + 1) (h1 : (a2 - a3) = a0) (h2 : a4 = a3 + a5) (h3 : a5 = 1) : (a2 - a4) = a1 := oz683 h0 h1 h2 h3
theorem os267 {a0 a1 : Int} (h0 : a0 = 31 * a1) : a0 = 31 * a1 := by omega
theorem os268 {a0 a1 a2 : Int} (h0 : a0 ≤ a1) (h1 : a1 ≤ 5) (h2 : a2 = 1) : a0 + a2 ≤ 2147483647 := oz684 h0 h1 h2
theorem os269 {a0 a1 a2 : Int} (h0 : a0 ≠ a1) (h1 : (0 : Int) ≤ a2) (h2 : (a1 - a0) = a2) : (1 : Int) ≤ a2 := oz685 h0 h1 h2
theorem os270 {a0 a1 a2 a3 : Int} (h0 : a0 ≠ a1) (h1 : (0 : Int) ≤ a0) (h2 : a0 ≤ a1) (h3 : a1 ≤ 5) (h4 : a2 = a0 + a3) (h5 : a3 = 1) : ((0 : Int) ≤ a2) ∧ (a2 ≤ a1) ∧ (a1 ≤ 5) := oz686 h0 h1 h2 h3 h4 h5
theorem os271 {a0 a1 : Int} (h0 : (0 : Int) ≤ a0) (h1 : a0 ≤ a1) (h2 : a1 ≤ 5) : ((0 : Int) ≤ a0) ∧ (a0 ≤ a1) ∧ (a1 ≤ 5) := oz687 h0 h1 h2
theorem os272 {a0 a1 a2 : Int} (h0 : (a0 - a1) = a2) : (a0 - a1) = a2 := oz688 h0
theorem os273 {a0 a1 : Int} (h0 : a0 ≠ a1) (h1 : a0 ≤ a1) : (a0 + 1) ≤ a1 := oz689 h0 h1
theorem os274 {a0 : Int} (h0 : a0 ≤ 8) : a0 ≤ 8 := oz559 h0
theorem os275 {a0 a1 : Int} (h0 : a0 ≤ 256) (h1 : a1 = 1) : a0 - a1 ≤ 2147483647 := oz690 h0 h1
theorem os282 {a0 a1 : Int} (h0 : a0 ≤ a1) (h1 : a0 = 0) : (0 : Int) ≤ a1 := oz389 h0 h1
theorem os283 {a0 a1 a2 a3 : Int} (h0 : a0 ≤ 256) (h1 : a1 = a0 - a2) (h2 : a3 ≤ a1) (h3 : a2 = 1) : a3 ≤ 255 := oz691 h0 h1 h2 h3
theorem os284 {a0 a1 a2 a3 a4 : Int} (h0 : a0 ≤ 256) (h1 : a1 = a0 - a2) (h2 : a3 ≤ a4) (h3 : a4 ≤ a1) (h4 : a2 = 1) (h5 : a3 = 0) : ((0 : Int) ≤ a4) ∧ (a4 ≤ 255) := oz692 h0 h1 h2 h3 h4 h5
theorem os285 {a0 a1 : Int} (h0 : a0 ≤ 8) (h1 : (0 : Int) ≤ a1) (h2 : a1 < a0) : ((0 : Int) ≤ a1) ∧ (a1 ≤ 7) := oz423 h0 h1 h2
theorem os286 {a0 a1 a2 a3 : Int} (h0 : a0 ≤ a1) (h1 : a0 = a2) (h2 : a1 = 5) (h3 : a3 = 0) : (a3 + a2) ≤ 5 := oz693 h0 h1 h2 h3
theorem os287 {a0 a1 : Int} (h0 : a0 ≠ a1) (h1 : a1 ≤ a0) (h2 : a1 = (-1)) : (0 : Int) ≤ a0 := oz694 h0 h1 h2
theorem os288 {a0 a1 a2 a3 a4 : Int} (h0 : a0 ≤ a1) (h1 : a2 < a3) (h2 : a0 = a4) (h3 : a3 = a4) (h4 : a1 = 5) : a2 < 5 := oz695 h0 h1 h2 h3 h4
theorem os294 {a0 a1 a2 : Int} (h0 : a0 ≤ a1) (h1 : a1 ≤ a2) (h2 : a0 = 1) (h3 : a2 = 5) : ((0 : Int) ≤ a0) ∧ (a0 ≤ a1) ∧ (a1 ≤ 5) := oz696 h0 h1 h2 h3
theorem os295 {a0 a1 a2 : Int} (h0 : a0 ≤ 8) (h1 : a1 = (a2 / 10)) (h2 : (0 : Int) ≤ a2) (h3 : (a2 / 10) < a0) (h4 : (a2 % 10) < a0) (h5 : (a2 / 10) ≠ (a2 % 10)) : ((0 : Int) ≤ a1) ∧ (a1 ≤ 7) := oz697 h0 h1 h2 h3 h4 h5
theorem os296 {a0 a1 a2 : Int} (h0 : a0 ≤ 8) (h1 : a1 = (a2 % 10)) (h2 : (a2 % 10) < a0) : ((0 : Int) ≤ a1) ∧ (a1 ≤ 7) := oz698 h0 h1 h2
theorem os297 {a0 a1 a2 a3 : Int} (h0 : a0 ≤ a1) (h1 : a1 ≤ a2) (h2 : a0 = 1) (h3 : a2 = 5) (h4 : a3 = 0) : ((0 : Int) ≤ a3) ∧ (a3 ≤ a1) ∧ (a1 ≤ 5) := oz699 h0 h1 h2 h3 h4
theorem os298 {a0 a1 a2 : Int} (h0 : a0 ≤ a1) (h1 : a0 = 1) (h2 : a2 = 0) : (a2 + 1) ≤ a1 := oz700 h0 h1 h2
theorem os306 {a0 : Int} (h0 : (0 : Int) ≤ a0) (h1 : a0 ≤ 5) : ((0 : Int) ≤ a0) ∧ (a0 ≤ 5) := oz35 h0 h1
theorem os310 {a0 a1 : Int} (h0 : ((-1) : Int) ≤ a0) (h1 : a1 = (-1)) : (-2147483648 : Int) ≤ a0 + a1 := oz516 h0 h1
theorem os311 {a0 a1 : Int} (h0 : a0 ≤ 2147483647) (h1 : a1 = (-1)) : a0 + a1 ≤ 2147483647 := oz517 h0 h1
theorem os312 {a0 a1 a2 a3 : Int} (h0 : a0 ≤ a1) (h1 : a2 = a1 + a3) (h2 : a0 = 0) (h3 : a3 = (-1)) : ((-1) : Int) ≤ a2 := oz518 h0 h1 h2 h3
theorem os313 {a0 a1 a2 : Int} (h0 : a0 = a1 + a2) (h1 : a2 = (-1)) : (a0 + 1) < (a1 + 1) := oz519 h0 h1
theorem os314 {a0 a1 : Int} (h0 : a0 ≤ a1) (h1 : a0 = 0) : (1 : Int) ≤ (a1 + 1) := oz520 h0 h1
theorem os315 {a0 : Int} (h0 : a0 = 9) : ((-1) : Int) ≤ a0 := oz521 h0
theorem os329 {a0 : Int} (h0 : (0 : Int) ≤ (a0 / 10)) (h1 : (a0 / 10) ≤ 5) : ((0 : Int) ≤ (a0 / 10)) ∧ ((a0 / 10) ≤ 5) := oz503 h0 h1
theorem os330 {a0 : Int} (h0 : (a0 % 10) ≤ 5) : (a0 % 10) ≤ 5 := oz504 h0
theorem os349 {a0 a1 : Int} (h0 : a0 = (a1 / 10)) (h1 : (0 : Int) ≤ a1) (h2 : (a1 / 10) ≤ 5) (h3 : (a1 % 10) ≤ 5) : ((0 : Int) ≤ a0) ∧ (a0 ≤ 5) := oz505 h0 h1 h2 h3
theorem os350 {a0 a1 a2 : Int} (h0 : a0 ≠ a1) (h1 : a0 ≠ a2) (h2 : a0 ≤ a1) (h3 : a2 ≤ a0) (h4 : a1 = 1) (h5 : a2 = 0) : False := oz510 h0 h1 h2 h3 h4 h5
theorem os351 {a0 a1 : Int} (h0 : a0 = a1) (h1 : a0 ≠ a1) (h2 : a0 ≤ a1) (h3 : a1 = 1) : False := oz511 h0 h1 h2 h3
theorem os352 {a0 a1 : Int} (h0 : a0 = (a1 % 10)) (h1 : (a1 % 10) ≤ 5) : ((0 : Int) ≤ a0) ∧ (a0 ≤ 5) := oz509 h0 h1
theorem os353 {a0 a1 a2 : Int} (h0 : a0 < a1) (h1 : a2 ≤ a0) (h2 : a1 ≤ 21) (h3 : a2 = 0) : ((0 : Int) ≤ a0) ∧ (a0 ≤ 20) := oz514 h0 h1 h2 h3
theorem os354 {a0 a1 a2 : Int} (h0 : a0 = a1) (h1 : a2 = a0) : a2 = a1 := oz762 h0 h1
theorem os355 {a0 a1 a2 : Int} (h0 : a0 = a1) (h1 : a0 = a2) (h2 : a1 = 1) (h3 : a2 = 0) : False := oz515 h0 h1 h2 h3
theorem os356 {a0 a1 a2 : Int} (h0 : a0 ≤ a1) (h1 : a2 ≤ 8) (h2 : a1 < a2) (h3 : a0 = 0) : ((0 : Int) ≤ a1) ∧ (a1 ≤ 7) := oz522 h0 h1 h2 h3
theorem os357 {a0 a1 : Int} (h0 : a0 < a1) (h1 : a1 = a0) (h2 : a0 = 1) : False := oz523 h0 h1 h2
theorem os358 {a0 a1 a2 : Int} (h0 : a0 < a1) (h1 : a1 = a2) (h2 : a0 = 1) (h3 : a2 = 0) : False := oz524 h0 h1 h2 h3
theorem os359 {a0 a1 : Int} (h0 : a0 = a1) (h1 : a0 ≠ a1) (h2 : a1 ≤ a0) (h3 : a1 = 0) : False := oz525 h0 h1 h2 h3
theorem os370 {a0 a1 a2 : Int} (h0 : a0 = a1) (h1 : a0 = a2) (h2 : a1 = 0) (h3 : a2 = 1) : False := oz533 h0 h1 h2 h3
theorem os371 {a0 a1 a2 : Int} (h0 : a0 = a1) (h1 : a2 < a0) (h2 : a1 = 0) (h3 : a2 = 1) : False := oz534 h0 h1 h2 h3
theorem kj_31 {a b x : Int} (h1 : a = 31 * x) (h2 : b = x + 1) (h0 : 0 ≤ x) : (31 * b).toNat = a.toNat + 31 := by omega
theorem kj_31b {a x : Int} (h1 : a = 31 * x) : (31 * x).toNat ≤ a.toNat := by omega
theorem kj_31c {b x : Int} (h2 : b = x + 1) : (31 * x).toNat ≤ (31 * b).toNat := by omega
noncomputable def yw168_116_140 : kW := ([], [140], [], [])
noncomputable def yw168_116_140_L2 : kW := ([], [140], [], [])
set_option maxRecDepth 100000 in
theorem ke168_116_140 {i : Nat → Int32} {a : Nat → List Int32} {q : Nat → List Int64} {r : Nat → Nat} (hI : kI i a q) (hr : kr r) (x2 : Int32) (hp0 : ((0 : Int) ≤ x2.toInt) ∧ (x2.toInt ≤ 124)) (hp1 : (x2.toInt % 31) = 0) : km 1 168 [.ref 116, .ref 140, .int x2] (ks i a q r) (kVN yw168_116_140 i a q r (fun i1 a1 q1 r1 => (True) ∧ (kCopd (a1 140) (a 118) x2.toInt.toNat 31 ∧ kLow x2.toInt.toNat (a1 140) (a 140)))) := by
  have hG := kG_self yw168_116_140 hI hr
  refine km_ofN (q := (mi_h168, mi_c168)) rfl (by decide) (Nat.le_of_ble_eq_true rfl) ?_
  intro P hP
  first | refine fo_goL mi_k168 fz168_0_2_2 [(3, .int 0), (0, .ref 116), (1, .ref 140), (2, .int x2)] [] (by rfl) ?_ | refine fo_goL mi_k168 fz168_19_2_2 [(3, .int 0), (0, .ref 116), (1, .ref 140), (2, .int x2)] [] (by rfl) ?_
  have lp1 : ∀ (nz : Nat) (i1 : Nat → Int32) (a1 : Nat → List Int32) (q1 : Nat → List Int64) (r1 : Nat → Nat) (l3_1 : Int32), kG yw168_116_140_L2 i a q r i1 a1 q1 r1 → (0 : Int) ≤ l3_1.toInt → kCopd (a1 140) (a 118) x2.toInt.toNat l3_1.toInt → kLow x2.toInt.toNat (a1 140) (a 140) → ((31 - l3_1.toInt)).toNat < nz → ko 1 (mi_h168, mi_c168) P (2, [(3, .int l3_1), (0, .ref 116), (1, .ref 140), (2, .int x2)], [], (0, 0), ks i1 a1 q1 r1) := by
    intro nz
    induction nz with
    | zero =>
      intro _ _ _ _ _ _ _ _ _ hm
      exact absurd hm (Nat.not_lt_zero _)
    | succ nz ih1 =>
      intro i1 a1 q1 r1 l3_1 hL1 p1_0 O1_0 O1_1 hm1
      refine fo_goL mi_k168 fz168_2_2_5 [(3, .int l3_1), (0, .ref 116), (1, .ref 140), (2, .int x2)] [.int 31, .int l3_1] rfl ?_
      refine ft_ifS mi_k168 (decide (31 ≤ l3_1)) 25 8 [] (by rfl) (fun c => ?_) (fun c => ?_)
      ·
        have c2 : (31 : Int32).toInt ≤ l3_1.toInt := kd_le c; clear c
        have hG3 := kG_call hG hL1 (by decide +kernel)
        exact ft_ret mi_k168 (by rfl) (hP  _ _ _ _ hG3 ⟨trivial, ⟨kCopd_cast O1_0 rfl rfl (os21 c2 kos31), kLow_cast O1_1 rfl rfl (Nat.le_refl _)⟩⟩)
      ·
        have c4 : l3_1.toInt < (31 : Int32).toInt := kd_leF c; clear c
        have s5 : (x2 + l3_1).toInt = x2.toInt + l3_1.toInt := kd_add (os198 hp0.1 p1_0) (os199 c4 hp0.2 kos31)
        refine fo_goS mi_k168 fz168_8_7_17 [.int l3_1, .ref 118, .int (x2 + l3_1), .ref 140] rfl ?_
        refine ko_iald3 mi_k168.1 (n := 31) (c := 31) (ax := (0, 0, 0, 0, 0)) (mi_k168.2 _ _ (by rfl)) (by rfl) (ksG118 _ _ _ _) (hL1.I.2.1 118) rfl (os0 p1_0) (os24 c4 kos31) ?_
        have r6 : ((l3_1.toInt = 18 → (0 : Int) ≤ ((a1 118).getD l3_1.toNatClampNeg 0).toInt ∧ ((a1 118).getD l3_1.toNatClampNeg 0).toInt ≤ 5)) ∧ ((19 ≤ l3_1.toInt → l3_1.toInt ≤ 24 → (0 : Int) ≤ ((a1 118).getD l3_1.toNatClampNeg 0).toInt ∧ ((a1 118).getD l3_1.toNatClampNeg 0).toInt ≤ 7)) := kE_ncond (p := 118) hL1.I (by decide) (j := l3_1) (os0 p1_0)
        have u7 : ((a1 118).getD l3_1.toNatClampNeg 0).toInt = ((a 118).getD l3_1.toNatClampNeg 0).toInt := congrArg (fun z : List Int32 => (z.getD l3_1.toNatClampNeg 0).toInt) (hL1.fa 118 rfl)
        refine ko_iast3 mi_k168.1 (n := 155) (c := 155) (ax := (0, 0, 0, 0, 0)) (mi_k168.2 _ _ (by rfl)) (by rfl) (ksG140 _ _ _ _) (ksA140 _ _ _ _) (hL1.I.2.1 140) rfl (os200 hp0.1 p1_0 s5) (os201 c4 hp0.2 s5 kos31) ?_
        intro a8 ea8 fa8
        have hJ8 := kG_a3 hL1 140 rfl ea8 fa8 (kE_tset (os200 hp0.1 p1_0 s5) (by have := kos31; omega) (by have := kos31; omega))
        have s9 : (l3_1 + 1).toInt = l3_1.toInt + (1 : Int32).toInt := kd_add (os6 p1_0 kos1) (os29 c4 kos31 kos1)
        first | refine fo_goL mi_k168 fz168_0_2_2 [(3, .int (l3_1 + 1)), (0, .ref 116), (1, .ref 140), (2, .int x2)] [] (by rfl) ?_ | refine fo_goL mi_k168 fz168_19_2_2 [(3, .int (l3_1 + 1)), (0, .ref 116), (1, .ref 140), (2, .int x2)] [] (by rfl) ?_
        exact ih1 _ _ _ _ _ hJ8 (os10 p1_0 s9 kos1) (kCopd_step O1_0 (hL1.I.2.1 140) (os0 p1_0) (os24 c4 kos31) (os202 hp0.1 s5) os31 (os201 c4 hp0.2 s5 kos31) (os32 s9 kos1) (hL1.fa 118 rfl) ea8 rfl) (kLow_step (y := (x2 + l3_1)) O1_1 (os203 hp0.1 p1_0 s5) ea8 rfl) (kj_meas (os33 s9 kos1) (os34 c4 kos31) hm1)
  exact lp1 _ _ _ _ _ _ (kG_self _ hG.I hG.R) (os19 kos0) (kCopd_zero kos0) (kLow_eq rfl) (Nat.lt_succ_self _)
noncomputable def yw169_116_140 : kW := ([], [118], [], [])
noncomputable def yw169_116_140_L2 : kW := ([], [118], [], [])
set_option maxRecDepth 100000 in
theorem ke169_116_140 {i : Nat → Int32} {a : Nat → List Int32} {q : Nat → List Int64} {r : Nat → Nat} (hI : kI i a q) (hr : kr r) (x2 : Int32) (hp0 : ((0 : Int) ≤ x2.toInt) ∧ (x2.toInt ≤ 124)) (hp1 : (x2.toInt % 31) = 0) : km 1 169 [.ref 116, .ref 140, .int x2] (ks i a q r) (kVN yw169_116_140 i a q r (fun i1 a1 q1 r1 => (True) ∧ kCopb (a1 118) (a 140) x2.toInt.toNat 31)) := by
  have hG := kG_self yw169_116_140 hI hr
  refine km_ofN (q := (mi_h169, mi_c169)) rfl (by decide) (Nat.le_of_ble_eq_true rfl) ?_
  intro P hP
  first | refine fo_goL mi_k169 fz169_0_2_2 [(3, .int 0), (0, .ref 116), (1, .ref 140), (2, .int x2)] [] (by rfl) ?_ | refine fo_goL mi_k169 fz169_19_2_2 [(3, .int 0), (0, .ref 116), (1, .ref 140), (2, .int x2)] [] (by rfl) ?_
  have lp1 : ∀ (nz : Nat) (i1 : Nat → Int32) (a1 : Nat → List Int32) (q1 : Nat → List Int64) (r1 : Nat → Nat) (l3_1 : Int32), kG yw169_116_140_L2 i a q r i1 a1 q1 r1 → (0 : Int) ≤ l3_1.toInt → kCopb (a1 118) (a 140) x2.toInt.toNat l3_1.toInt → ((31 - l3_1.toInt)).toNat < nz → ko 1 (mi_h169, mi_c169) P (2, [(3, .int l3_1), (0, .ref 116), (1, .ref 140), (2, .int x2)], [], (0, 0), ks i1 a1 q1 r1) := by
    intro nz
    induction nz with
    | zero =>
      intro _ _ _ _ _ _ _ _ hm
      exact absurd hm (Nat.not_lt_zero _)
    | succ nz ih1 =>
      intro i1 a1 q1 r1 l3_1 hL1 p1_0 O1_0 hm1
      refine ft_goL mi_k169 2 5 [(3, .int l3_1), (0, .ref 116), (1, .ref 140), (2, .int x2)] [.int 31, .int l3_1] (by rfl) ?_
      refine ft_ifS mi_k169 (decide (31 ≤ l3_1)) 25 8 [] (by rfl) (fun c => ?_) (fun c => ?_)
      ·
        have c2 : (31 : Int32).toInt ≤ l3_1.toInt := kd_le c; clear c
        have hG3 := kG_call hG hL1 (by decide +kernel)
        exact ft_ret mi_k169 (by rfl) (hP  _ _ _ _ hG3 ⟨trivial, (kCopb_cast O1_0 rfl rfl (os21 c2 kos31))⟩)
      ·
        have c4 : l3_1.toInt < (31 : Int32).toInt := kd_leF c; clear c
        have s5 : (x2 + l3_1).toInt = x2.toInt + l3_1.toInt := kd_add (os198 hp0.1 p1_0) (os199 c4 hp0.2 kos31)
        refine fo_goS mi_k169 fz169_8_7_17 [.int (x2 + l3_1), .ref 140, .int l3_1, .ref 118] rfl ?_
        refine ko_iald3 mi_k169.1 (n := 155) (c := 155) (ax := (0, 0, 0, 0, 0)) (mi_k169.2 _ _ (by rfl)) (by rfl) (ksG140 _ _ _ _) (hL1.I.2.1 140) rfl (os200 hp0.1 p1_0 s5) (os201 c4 hp0.2 s5 kos31) ?_
        have r6 : ((((x2 + l3_1).toInt % 31) = 18 → (0 : Int) ≤ ((a1 140).getD (x2 + l3_1).toNatClampNeg 0).toInt ∧ ((a1 140).getD (x2 + l3_1).toNatClampNeg 0).toInt ≤ 5)) ∧ ((19 ≤ ((x2 + l3_1).toInt % 31) → ((x2 + l3_1).toInt % 31) ≤ 24 → (0 : Int) ≤ ((a1 140).getD (x2 + l3_1).toNatClampNeg 0).toInt ∧ ((a1 140).getD (x2 + l3_1).toNatClampNeg 0).toInt ≤ 7)) := kE_tcond hL1.I (j := (x2 + l3_1)) (os200 hp0.1 p1_0 s5)
        refine ko_iast3 mi_k169.1 (n := 31) (c := 31) (ax := (0, 0, 0, 0, 0)) (mi_k169.2 _ _ (by rfl)) (by rfl) (ksG118 _ _ _ _) (ksA118 _ _ _ _) (hL1.I.2.1 118) rfl (os0 p1_0) (os24 c4 kos31) ?_
        intro a7 ea7 fa7
        have hJ7 := kG_a3 hL1 118 rfl ea7 fa7 (kE_nset (p := 118) (by decide) (os0 p1_0) (by have := kos31; omega) (by have := kos31; omega))
        have s8 : (l3_1 + 1).toInt = l3_1.toInt + (1 : Int32).toInt := kd_add (os6 p1_0 kos1) (os29 c4 kos31 kos1)
        first | refine fo_goL mi_k169 fz169_0_2_2 [(3, .int (l3_1 + 1)), (0, .ref 116), (1, .ref 140), (2, .int x2)] [] (by rfl) ?_ | refine fo_goL mi_k169 fz169_19_2_2 [(3, .int (l3_1 + 1)), (0, .ref 116), (1, .ref 140), (2, .int x2)] [] (by rfl) ?_
        exact ih1 _ _ _ _ _ hJ7 (os10 p1_0 s8 kos1) (kCopb_step O1_0 (hL1.I.2.1 118) (os0 p1_0) (os24 c4 kos31) (os202 hp0.1 s5) os31 (os24 c4 kos31) (os32 s8 kos1) (hL1.fa 140 rfl) ea7 rfl) (kj_meas (os33 s8 kos1) (os34 c4 kos31) hm1)
  exact lp1 _ _ _ _ _ _ (kG_self _ hG.I hG.R) (os19 kos0) (kCopb_zero kos0) (Nat.lt_succ_self _)
noncomputable def wOE : kW := ([7464, 7465, 7466, 7467, 7469, 7476], [118, 128, 129, 139, 141, 142, 143, 144, 145, 146, 147], [], [])
noncomputable def yw184_116_L94 : kW := ([7464, 7465, 7466, 7467, 7469, 7476], [118, 128, 129, 139, 141, 142, 143, 144, 145, 146, 147], [], [])
noncomputable def yw184_116_L12 : kW := ([], [142], [], [])
noncomputable def yw184_116_L64 : kW := ([], [147], [], [])
noncomputable def kLOE_184 (n : Nat) : Prop := ∀ (i : Nat → Int32) (a : Nat → List Int32) (q : Nat → List Int64) (r : Nat → Nat), kI i a q → kr r → ∀ (x1 : Int32) (x2 : Int32) (x3 : Int32), (0 : Int) ≤ x1.toInt → ((0 : Int) ≤ x2.toInt) ∧ (x2.toInt ≤ 255) → ((0 : Int) ≤ x3.toInt) ∧ (x3.toInt ≤ 7) → (x1.toInt + (kbc x2).toInt) ≤ 5 → (kbc x2).toInt = (n : Int) → kCode i a → km (6 * n + 30) 184 [.ref 116, .int x1, .int x2, .int x3] (ks i a q r) (kVN wOE i a q r (fun i1 a1 q1 r1 => (True) ∧ a1 118 = a 118))
set_option maxRecDepth 100000 in
theorem kLsOE_184 (n : Nat)  (ih : ∀ m, n = m + 1 → kLOE_184 m) : kLOE_184 n := by
  intro i a q r hI hr x1 x2 x3 hp0 hp1 hp2 hp3 hp4 hE_code
  have hG := kG_self wOE hI hr
  refine km_ofN (q := (mi_h184, mi_c184)) rfl (by decide) (Nat.le_of_ble_eq_true rfl) ?_
  intro P hP
  have hn0 : (0 : Int) ≤ (n : Int) := Int.natCast_nonneg n
  refine ft_goL mi_k184 1 1 [(0, .ref 116), (1, .int x1), (2, .int x2), (3, .int x3)] [.int x2] (by rfl) ?_
  refine ft_ifS mi_k184 (x2 != 0) 91 4 [] (by rfl) (fun c => ?_) (fun c => ?_)
  ·
    have c1 : x2.toInt ≠ (0 : Int32).toInt := kd_ne c; clear c
    have kb2 : (1 : Int) ≤ (kbc x2).toInt := kbc_pos (os0 hp1.1) (os1 hp1.2) (os2 c1 hp1.1 kos0)
    first | refine ft_goL mi_k184 2 94 [(4, .int 0), (0, .ref 116), (1, .int x1), (2, .int x2), (3, .int x3)] [] (by rfl) ?_
    have lp3 : ∀ (nz : Nat) (i3 : Nat → Int32) (a3 : Nat → List Int32) (q3 : Nat → List Int64) (r3 : Nat → Nat) (l4_3 : Int32), kG yw184_116_L94 i a q r i3 a3 q3 r3 → (0 : Int) ≤ l4_3.toInt → a3 118 = a 118 → (((i3 7424).toInt - l4_3.toInt)).toNat < nz → ko (6 * n + 30) (mi_h184, mi_c184) P (94, [(4, .int l4_3), (0, .ref 116), (1, .int x1), (2, .int x2), (3, .int x3)], [], (0, 0), ks i3 a3 q3 r3) := by
      intro nz
      induction nz with
      | zero =>
        intro _ _ _ _ _ _ _ _ hm
        exact absurd hm (Nat.not_lt_zero _)
      | succ nz ih3 =>
        intro i3 a3 q3 r3 l4_3 hL3 p3_0 O3_0 hm3
        have fi3_7424 : ((0 : Int) ≤ (i3 7424).toInt) ∧ ((i3 7424).toInt ≤ 8) := hL3.I.1 7424
        refine ft_goL mi_k184 3 100 [(4, .int l4_3), (0, .ref 116), (1, .int x1), (2, .int x2), (3, .int x3)] [.int (i3 7424), .int l4_3] (by rfl) ?_
        refine ft_ifS mi_k184 (decide ((i3 7424) ≤ l4_3)) 145 103 [] (by rfl) (fun c => ?_) (fun c => ?_)
        ·
          have c4 : (i3 7424).toInt ≤ l4_3.toInt := kd_le c; clear c
          have hG5 := kG_call hG hL3 (by decide +kernel)
          exact ft_ret mi_k184 (by rfl) (hP  _ _ _ _ hG5 ⟨trivial, (show a3 118 = a 118 from (by first | rfl | (simp only [O3_0, sMn, sMx]; done) | (simp only [O3_0, sMn, sMx]; rfl)))⟩)
        ·
          have c6 : l4_3.toInt < (i3 7424).toInt := kd_leF c; clear c
          refine ft_goS mi_k184 5 109 [.int ((x2 >>> (l4_3 &&& 31)) &&& 1)] (by rfl) ?_
          refine ft_ifS mi_k184 (((x2 >>> (l4_3 &&& 31)) &&& 1) != 0) 115 112 [] (by rfl) (fun c => ?_) (fun c => ?_)
          ·
            have c7 : ((x2 >>> (l4_3 &&& 31)) &&& 1).toInt ≠ (0 : Int32).toInt := kd_ne c; clear c
            have ks8 : ((kbc (x2 &&& ((1 <<< (l4_3 &&& 31)) ^^^ (-1)))).toInt = (kbc x2).toInt - 1) ∧ ((0 : Int) ≤ (x2 &&& ((1 <<< (l4_3 &&& 31)) ^^^ (-1))).toInt) ∧ ((x2 &&& ((1 <<< (l4_3 &&& 31)) ^^^ (-1))).toInt ≤ 255) := kbc_step (os0 hp1.1) (os1 hp1.2) (os0 p3_0) (os3 c6 fi3_7424.2) (os4 c7 kos0)
            refine ft_goS mi_k184 4 122 [.int l4_3, .int x1, .ref 146] (by rfl) ?_
            refine ko_iast3 mi_k184.1 (n := 5) (c := 5) (ax := (0, 0, 0, 0, 0)) (mi_k184.2 _ _ (by rfl)) (by rfl) (ksG146 _ _ _ _) (ksA146 _ _ _ _) (hL3.I.2.1 146) rfl (os0 hp0) (os5 hp3 kb2) ?_
            intro a9 ea9 fa9
            have hJ9 := kG_a3 hL3 146 rfl ea9 fa9 ⟨(os0 p3_0), (os3 c6 fi3_7424.2)⟩
            have s10 : (x1 + 1).toInt = x1.toInt + (1 : Int32).toInt := kd_add (os6 hp0 kos1) (os7 hp3 kb2 kos1)
            have s11 : ((1 : Int) ≤ (1 <<< (l4_3 &&& 31)).toInt) ∧ ((1 <<< (l4_3 &&& 31)).toInt ≤ 256) := kd_shl1 (os0 p3_0) (os8 c6 fi3_7424.2)
            refine ft_goS mi_k184 12 136 [.int x3, .int (x2 &&& ((1 <<< (l4_3 &&& 31)) ^^^ (-1))), .int (x1 + 1), .ref 116] (by rfl) ?_
            obtain ⟨m, hm, hmI⟩ := kj_pred (os9 hp4 kb2)
            have hG12 := kG_call hG hJ9 (by decide +kernel)
            refine ko_callN mi_k184.1 (pc := 136) (ls := [(4, .int l4_3), (0, .ref 116), (1, .int x1), (2, .int x2), (3, .int x3)]) (st := [.int x3, .int (x2 &&& ((1 <<< (l4_3 &&& 31)) ^^^ (-1))), .int (x1 + 1), .ref 116]) (h := ks i3 a9 q3 r3) (i := (.invokevirtual 300, 3, 184, 0, 9, 0, 436)) (mi_k184.2 _ _ (by rfl)) (ft_invS mi_pq184 (by rfl)) (cy := mi_c184) mi_pq184 rfl ((ih m hm) _ _ _ _ hJ9.I hJ9.R (x1 + 1) (x2 &&& ((1 <<< (l4_3 &&& 31)) ^^^ (-1))) x3 (os10 hp0 s10 kos1) (os11 ks8.2.1 ks8.2.2) (os12 hp2.1 hp2.2) (os13 hp3 ks8.1 s10 kos1) (os14 hmI hp4 ks8.1) (kCode_of (i1 := i3) hE_code (hG12.fi 7432 rfl) (hG12.fa 120 rfl) (hG12.fa 121 rfl) (hG12.fa 122 rfl) (hG12.fa 123 rfl))) (kj_d2 (n := n) (m := m) (o := 30) (o1 := 30) hm (by decide)) ?_
            intro ig13 ag13 qg13 rg13 kg13 hg13
            have hGg13 := kG_call hJ9 kg13 (by decide +kernel)
            obtain ⟨hg13, og13⟩ := hg13
            have s14 : (l4_3 + 1).toInt = l4_3.toInt + (1 : Int32).toInt := kd_add (os6 p3_0 kos1) (os15 c6 fi3_7424.2 kos1)
            first | refine ft_goL mi_k184 2 94 [(4, .int (l4_3 + 1)), (0, .ref 116), (1, .int x1), (2, .int x2), (3, .int x3)] [] (by rfl) ?_
            have efig13_7424 : (ig13 7424).toInt = (i3 7424).toInt := kg13.ti 7424 rfl
            exact ih3 _ _ _ _ _ hGg13 (os10 p3_0 s14 kos1) (by first | rfl | (simp only [og13, fa9 118 (by decide), O3_0, sMn, sMx]; done) | (simp only [og13, fa9 118 (by decide), O3_0, sMn, sMx]; rfl)) (kj_meas (os16 efig13_7424 s14 kos1) (os17 c6) hm3)
          ·
            have c15 : ((x2 >>> (l4_3 &&& 31)) &&& 1).toInt = (0 : Int32).toInt := kd_neF c; clear c
            have s16 : (l4_3 + 1).toInt = l4_3.toInt + (1 : Int32).toInt := kd_add (os6 p3_0 kos1) (os15 c6 fi3_7424.2 kos1)
            first | refine ft_goL mi_k184 3 94 [(4, .int (l4_3 + 1)), (0, .ref 116), (1, .int x1), (2, .int x2), (3, .int x3)] [] (by rfl) ?_
            exact ih3 _ _ _ _ _ hL3 (os10 p3_0 s16 kos1) (by first | rfl | (simp only [O3_0, sMn, sMx]; done) | (simp only [O3_0, sMn, sMx]; rfl)) (kj_meas (os18 s16 kos1) (os17 c6) hm3)
    exact lp3 _ _ _ _ _ _ (kG_self _ hG.I hG.R) (os19 kos0) rfl (Nat.lt_succ_self _)
  ·
    have c17 : x2.toInt = (0 : Int32).toInt := kd_neF c; clear c
    have hJ18 := kG_i hG 7469 rfl (v := x1) ⟨(os0 hp0), (os20 hn0 hp3 hp4)⟩
    first | refine fo_go mi_k184 fz184_4_5_12 [(4, .int 0), (0, .ref 116), (1, .int x1), (2, .int x2), (3, .int x3)] [] (ku i 7469 x1) a q r (by rfl) ?_ | refine ft_goL mi_k184 5 12 [(4, .int 0), (0, .ref 116), (1, .int x1), (2, .int x2), (3, .int x3)] [] (by rfl) ?_ | refine ft_go mi_k184 5 12 [(4, .int 0), (0, .ref 116), (1, .int x1), (2, .int x2), (3, .int x3)] [] (ku i 7469 x1) a q r (by rfl) ?_
    have lp19 : ∀ (nz : Nat) (i19 : Nat → Int32) (a19 : Nat → List Int32) (q19 : Nat → List Int64) (r19 : Nat → Nat) (l4_19 : Int32), kG yw184_116_L12 (ku i 7469 x1) a q r i19 a19 q19 r19 → (0 : Int) ≤ l4_19.toInt → a19 118 = a 118 → ((x1.toInt - l4_19.toInt)).toNat < nz → ko (6 * n + 30) (mi_h184, mi_c184) P (12, [(4, .int l4_19), (0, .ref 116), (1, .int x1), (2, .int x2), (3, .int x3)], [], (0, 0), ks i19 a19 q19 r19) := by
      intro nz
      induction nz with
      | zero =>
        intro _ _ _ _ _ _ _ _ hm
        exact absurd hm (Nat.not_lt_zero _)
      | succ nz ih19 =>
        intro i19 a19 q19 r19 l4_19 hL19 p19_0 O19_0 hm19
        refine ft_goL mi_k184 2 15 [(4, .int l4_19), (0, .ref 116), (1, .int x1), (2, .int x2), (3, .int x3)] [.int x1, .int l4_19] (by rfl) ?_
        refine ft_ifS mi_k184 (decide (x1 ≤ l4_19)) 38 18 [] (by rfl) (fun c => ?_) (fun c => ?_)
        ·
          have c20 : x1.toInt ≤ l4_19.toInt := kd_le c; clear c
          have hG21 := kG_call hJ18 hL19 (by decide +kernel)
          refine ft_goS mi_k184 2 40 [.int x3, .ref 116] (by rfl) ?_
          refine ko_callI mi_k184.1 (pc := 40) (ls := [(4, .int l4_19), (0, .ref 116), (1, .int x1), (2, .int x2), (3, .int x3)]) (st := [.int x3, .ref 116]) (h := ks i19 a19 q19 r19) (i := (.invokevirtual 288, 3, 172, 0, 9, 0, 429)) (mi_k184.2 _ _ (by rfl)) (ft_invS mi_pq172 (by rfl)) (cy := mi_c172) mi_pq172 rfl (ke172_116 hG21.I hG21.R x3 (os12 hp2.1 hp2.2) (kCode_of (i1 := i19) hE_code (hG21.fi 7432 rfl) (hG21.fa 120 rfl) (hG21.fa 121 rfl) (hG21.fa 122 rfl) (hG21.fa 123 rfl))) (kj_d3 (n := n) (c := 13) (o1 := 30) (by decide)) ?_
          intro vg22 ig22 ag22 qg22 rg22 kg22 hg22
          have hGg22 := kG_call hG21 kg22 (by decide +kernel)
          obtain ⟨hg22, og22⟩ := hg22
          have q23 : ag22 118 = a19 118 := og22
          refine ft_goL mi_k184 4 51 [(4, .int vg22), (0, .ref 116), (1, .int x1), (2, .int x2), (3, .int x3)] [.int (ig22 7476), .int vg22] (by rfl) ?_
          refine ft_ifS mi_k184 (decide ((ig22 7476) < vg22)) 55 54 [] (by rfl) (fun c => ?_) (fun c => ?_)
          ·
            have c24 : (ig22 7476).toInt < vg22.toInt := kd_lt c; clear c
            have hJ25 := kG_i hGg22 7476 rfl (v := vg22) (kd_bd _)
            first | refine fo_go mi_k184 fz184_55_5_64 [(5, .int 0), (4, .int vg22), (0, .ref 116), (1, .int x1), (2, .int x2), (3, .int x3)] [] (ku ig22 7476 vg22) ag22 qg22 rg22 (by rfl) ?_ | refine ft_goL mi_k184 5 64 [(5, .int 0), (4, .int vg22), (0, .ref 116), (1, .int x1), (2, .int x2), (3, .int x3)] [] (by rfl) ?_ | refine ft_go mi_k184 5 64 [(5, .int 0), (4, .int vg22), (0, .ref 116), (1, .int x1), (2, .int x2), (3, .int x3)] [] (ku ig22 7476 vg22) ag22 qg22 rg22 (by rfl) ?_
            have lp26 : ∀ (nz : Nat) (i26 : Nat → Int32) (a26 : Nat → List Int32) (q26 : Nat → List Int64) (r26 : Nat → Nat) (l5_26 : Int32), kG yw184_116_L64 (ku ig22 7476 vg22) ag22 qg22 rg22 i26 a26 q26 r26 → (0 : Int) ≤ l5_26.toInt → a26 118 = a 118 → ((x1.toInt - l5_26.toInt)).toNat < nz → ko (6 * n + 30) (mi_h184, mi_c184) P (64, [(5, .int l5_26), (4, .int vg22), (0, .ref 116), (1, .int x1), (2, .int x2), (3, .int x3)], [], (0, 0), ks i26 a26 q26 r26) := by
              intro nz
              induction nz with
              | zero =>
                intro _ _ _ _ _ _ _ _ hm
                exact absurd hm (Nat.not_lt_zero _)
              | succ nz ih26 =>
                intro i26 a26 q26 r26 l5_26 hL26 p26_0 O26_0 hm26
                refine ft_goL mi_k184 2 67 [(5, .int l5_26), (4, .int vg22), (0, .ref 116), (1, .int x1), (2, .int x2), (3, .int x3)] [.int x1, .int l5_26] (by rfl) ?_
                refine ft_ifS mi_k184 (decide (x1 ≤ l5_26)) 90 70 [] (by rfl) (fun c => ?_) (fun c => ?_)
                ·
                  have c27 : x1.toInt ≤ l5_26.toInt := kd_le c; clear c
                  have hG28 := kG_call hJ25 hL26 (by decide +kernel)
                  exact ft_ret mi_k184 (by rfl) (hP  _ _ _ _ hG28 ⟨trivial, (show a26 118 = a 118 from (by first | rfl | (simp only [O26_0, sMn, sMx]; done) | (simp only [O26_0, sMn, sMx]; rfl)))⟩)
                ·
                  have c29 : l5_26.toInt < x1.toInt := kd_leF c; clear c
                  refine fo_goS mi_k184 fz184_70_6_82 [.int l5_26, .ref 146, .int l5_26, .ref 147] rfl ?_
                  refine ko_iald3 mi_k184.1 (n := 5) (c := 5) (ax := (0, 0, 0, 0, 0)) (mi_k184.2 _ _ (by rfl)) (by rfl) (ksG146 _ _ _ _) (hL26.I.2.1 146) rfl (os0 p26_0) (os192 c29 hn0 hp3 hp4) ?_
                  have r30 : ((0 : Int) ≤ ((a26 146).getD l5_26.toNatClampNeg 0).toInt) ∧ (((a26 146).getD l5_26.toNatClampNeg 0).toInt ≤ 7) := hL26.I.2.2.1 146 (l5_26.toNatClampNeg)
                  refine ko_iast3 mi_k184.1 (n := 5) (c := 5) (ax := (0, 0, 0, 0, 0)) (mi_k184.2 _ _ (by rfl)) (by rfl) (ksG147 _ _ _ _) (ksA147 _ _ _ _) (hL26.I.2.1 147) rfl (os0 p26_0) (os192 c29 hn0 hp3 hp4) ?_
                  intro a31 ea31 fa31
                  have hJ31 := kG_a3 hL26 147 rfl ea31 fa31 (kd_bd _)
                  have s32 : (l5_26 + 1).toInt = l5_26.toInt + (1 : Int32).toInt := kd_add (os6 p26_0 kos1) (os193 c29 hn0 hp3 hp4 kos1)
                  first | refine ft_goL mi_k184 2 64 [(5, .int (l5_26 + 1)), (4, .int vg22), (0, .ref 116), (1, .int x1), (2, .int x2), (3, .int x3)] [] (by rfl) ?_
                  exact ih26 _ _ _ _ _ hJ31 (os10 p26_0 s32 kos1) (by first | rfl | (simp only [fa31 118 (by decide), O26_0, sMn, sMx]; done) | (simp only [fa31 118 (by decide), O26_0, sMn, sMx]; rfl)) (kj_meas (os18 s32 kos1) (os17 c29) hm26)
            exact lp26 _ _ _ _ _ _ (kG_self _ hJ25.I hJ25.R) (os19 kos0) (by first | rfl | (simp only [q23, O19_0, sMn, sMx]; done) | (simp only [q23, O19_0, sMn, sMx]; rfl)) (Nat.lt_succ_self _)
          ·
            have c33 : vg22.toInt ≤ (ig22 7476).toInt := kd_ltF c; clear c
            exact ft_ret mi_k184 (by rfl) (hP  _ _ _ _ hGg22 ⟨trivial, (show ag22 118 = a 118 from (by first | rfl | (simp only [q23, O19_0, sMn, sMx]; done) | (simp only [q23, O19_0, sMn, sMx]; rfl)))⟩)
        ·
          have c34 : l4_19.toInt < x1.toInt := kd_leF c; clear c
          refine fo_goS mi_k184 fz184_18_6_30 [.int l4_19, .ref 146, .int l4_19, .ref 142] rfl ?_
          refine ko_iald3 mi_k184.1 (n := 5) (c := 5) (ax := (0, 0, 0, 0, 0)) (mi_k184.2 _ _ (by rfl)) (by rfl) (ksG146 _ _ _ _) (hL19.I.2.1 146) rfl (os0 p19_0) (os192 c34 hn0 hp3 hp4) ?_
          have r35 : ((0 : Int) ≤ ((a19 146).getD l4_19.toNatClampNeg 0).toInt) ∧ (((a19 146).getD l4_19.toNatClampNeg 0).toInt ≤ 7) := hL19.I.2.2.1 146 (l4_19.toNatClampNeg)
          refine ko_iast3 mi_k184.1 (n := 21) (c := 21) (ax := (0, 0, 0, 0, 0)) (mi_k184.2 _ _ (by rfl)) (by rfl) (ksG142 _ _ _ _) (ksA142 _ _ _ _) (hL19.I.2.1 142) rfl (os0 p19_0) (os194 c34 hn0 hp3 hp4) ?_
          intro a36 ea36 fa36
          have hJ36 := kG_a3 hL19 142 rfl ea36 fa36 ⟨(os0 r35.1), (os195 r35.2)⟩
          have s37 : (l4_19 + 1).toInt = l4_19.toInt + (1 : Int32).toInt := kd_add (os6 p19_0 kos1) (os193 c34 hn0 hp3 hp4 kos1)
          first | refine ft_goL mi_k184 2 12 [(4, .int (l4_19 + 1)), (0, .ref 116), (1, .int x1), (2, .int x2), (3, .int x3)] [] (by rfl) ?_
          exact ih19 _ _ _ _ _ hJ36 (os10 p19_0 s37 kos1) (by first | rfl | (simp only [fa36 118 (by decide), O19_0, sMn, sMx]; done) | (simp only [fa36 118 (by decide), O19_0, sMn, sMx]; rfl)) (kj_meas (os18 s37 kos1) (os17 c34) hm19)
    exact lp19 _ _ _ _ _ _ (kG_self _ hJ18.I hJ18.R) (os19 kos0) rfl (Nat.lt_succ_self _)
theorem kLallOE : ∀ n : Nat, kLOE_184 n
  | 0 => by
    have ih : ∀ m, 0 = m + 1 → kLOE_184 m := fun m h => by omega
    have h184 := kLsOE_184 0  ih
    exact h184
  | n + 1 => by
    have ih : ∀ m, n + 1 = m + 1 → kLOE_184 m := fun m h => by
      have e : n = m := by omega
      subst e
      exact kLallOE n
    have h184 := kLsOE_184 (n + 1)  ih
    exact h184
noncomputable def wUE : kW := ([7464, 7465, 7466, 7467], [118, 128, 129, 140, 141], [], [])
noncomputable def kLUE_198 (n : Nat) : Prop := ∀ (i : Nat → Int32) (a : Nat → List Int32) (q : Nat → List Int64) (r : Nat → Nat), kI i a q → kr r → ∀ (x1 : Int32) (x2 : Int32) (x3 : Int32) (x4 : Int32), ((0 : Int) ≤ x1.toInt) ∧ (x1.toInt ≤ x2.toInt) ∧ (x2.toInt ≤ 5) → (x2.toInt - x1.toInt) = (n : Int) → ((0 : Int) ≤ x3.toInt) ∧ (x3.toInt ≤ 7) → ((0 : Int) ≤ x4.toInt) ∧ (x4.toInt ≤ 7) → (x1.toInt + 1) ≤ x2.toInt → kCode i a → km (6 * n + 30) 198 [.ref 116, .int x1, .int x2, .int x3, .int x4] (ks i a q r) (kVI wUE i a q r (fun v i1 a1 q1 r1 => (True) ∧ (a1 118 = a 118 ∧ kLow (31 * x1.toInt).toNat (a1 140) (a 140))))
noncomputable def kLUE_199 (n : Nat) : Prop := ∀ (i : Nat → Int32) (a : Nat → List Int32) (q : Nat → List Int64) (r : Nat → Nat), kI i a q → kr r → ∀ (x1 : Int32) (x2 : Int32) (x3 : Int32) (x4 : Int32), ((0 : Int) ≤ x1.toInt) ∧ (x1.toInt ≤ x2.toInt) ∧ (x2.toInt ≤ 5) → (x2.toInt - x1.toInt) = (n : Int) → ((0 : Int) ≤ x3.toInt) ∧ (x3.toInt ≤ 7) → ((0 : Int) ≤ x4.toInt) ∧ (x4.toInt ≤ 7) → kCode i a → km (6 * n + 31) 199 [.ref 116, .int x1, .int x2, .int x3, .int x4] (ks i a q r) (kVI wUE i a q r (fun v i1 a1 q1 r1 => (True) ∧ (a1 118 = a 118 ∧ kLow (31 * x1.toInt).toNat (a1 140) (a 140))))
set_option maxRecDepth 100000 in
theorem kLsUE_198 (n : Nat)  (ih : ∀ m, n = m + 1 → kLUE_199 m ∧ kLUE_198 m) : kLUE_198 n := by
  intro i a q r hI hr x1 x2 x3 x4 hp0 hp1 hp2 hp3 hp4 hE_code
  have hG := kG_self wUE hI hr
  refine km_ofI (q := (mi_h198, mi_c198)) rfl (by decide) (Nat.le_of_ble_eq_true rfl) ?_
  intro P hP
  have hn0 : (0 : Int) ≤ (n : Int) := Int.natCast_nonneg n
  have s1 : (31 * x1).toInt = 31 * x1.toInt := kd_cmul 31 kos31 (os196 hp0.1) (os197 hp0.2.2 hp4)
  refine fo_goL mi_k198 fz198_0_6_9 [(0, .ref 116), (1, .int x1), (2, .int x2), (3, .int x3), (4, .int x4)] [.int (31 * x1), .ref 140, .ref 116] rfl ?_
  refine ko_callN mi_k198.1 (pc := 9) (ls := [(0, .ref 116), (1, .int x1), (2, .int x2), (3, .int x3), (4, .int x4)]) (st := [.int (31 * x1), .ref 140, .ref 116]) (h := ks i a q r) (i := (.invokevirtual 263, 3, 168, 0, 9, 0, 413)) (mi_k198.2 _ _ (by rfl)) (ft_invS mi_pq168 (by rfl)) (cy := mi_c168) mi_pq168 rfl (ke168_116_140 hG.I hG.R (31 * x1) (os204 hp0.1 hp0.2.2 hp4 s1) (by omega)) (kj_d3 (n := n) (c := 1) (o1 := 30) (by decide)) ?_
  intro ig2 ag2 qg2 rg2 kg2 hg2
  have hGg2 := kG_call hG kg2 (by decide +kernel)
  obtain ⟨hg2, og2⟩ := hg2
  have s3 : (x1 - x1 / 2 * 2).toInt = (x1.toInt % 2) := kd_rem 2 kos2 (by decide) (os0 hp0.1)
  refine ft_goS mi_k198 4 16 [.int (x1 - x1 / 2 * 2), .ref 116] (by rfl) ?_
  refine ft_ifS mi_k198 ((x1 - x1 / 2 * 2) != 0) 23 19 [.ref 116] (by rfl) (fun c => ?_) (fun c => ?_)
  ·
    have c4 : (x1 - x1 / 2 * 2).toInt ≠ (0 : Int32).toInt := kd_ne c; clear c
    first | refine ft_goS mi_k198 1 25 [.int x4, .ref 116] (by rfl) ?_
    refine ko_callI mi_k198.1 (pc := 25) (ls := [(0, .ref 116), (1, .int x1), (2, .int x2), (3, .int x3), (4, .int x4)]) (st := [.int x4, .ref 116]) (h := ks ig2 ag2 qg2 rg2) (i := (.invokevirtual 260, 3, 166, 0, 9, 0, 415)) (mi_k198.2 _ _ (by rfl)) (ft_invS mi_pq166 (by rfl)) (cy := mi_c166) mi_pq166 rfl (ke166_116 hGg2.I hGg2.R x4 (os12 hp3.1 hp3.2) (kCode_of (i1 := ig2) hE_code (hGg2.fi 7432 rfl) (hGg2.fa 120 rfl) (hGg2.fa 121 rfl) (hGg2.fa 122 rfl) (hGg2.fa 123 rfl))) (kj_d3 (n := n) (c := 9) (o1 := 30) (by decide)) ?_
    intro vg5 ig5 ag5 qg5 rg5 kg5 hg5
    have hGg5 := kG_call hGg2 kg5 (by decide +kernel)
    obtain ⟨hg5, og5⟩ := hg5
    have efig2_7427 : (ig2 7427).toInt = (i 7427).toInt := kg2.ti 7427 rfl
    have z6 : ((vg5.toInt = 1) ∧ (¬ ((((ag2 117).getD (16 + x4).toNatClampNeg 0).toInt = 1) ∧ ((ig2 7427).toInt = 0)))) ∨ ((vg5.toInt = 0) ∧ (((ag2 117).getD (16 + x4).toNatClampNeg 0).toInt = 1) ∧ ((ig2 7427).toInt = 0)) := hg5
    have qc7 : ¬ ((((ag2 117).getD (16 + x4).toNatClampNeg 0).toInt = 1) ∧ ((ig2 7427).toInt = 0)) → ag5 118 = sCome x4 (gBuy (ig2 7431) (ag2 120) (ag2 121) (ag2 122) (ag2 123) (ig2 7432) (ag2 117) (ag2 118) (gPaid (ig2 7426) x4 (ag2 118) (ig2 7467) (ag2 141)).1 x4) (gPaid (ig2 7426) x4 (ag2 118) (ig2 7467) (ag2 141)).1 := og5.1
    have qc8 : ¬ ((((ag2 117).getD (16 + x4).toNatClampNeg 0).toInt = 1) ∧ ((ig2 7427).toInt = 0)) → ig5 7464 = (gPaid (ig2 7426) x4 (ag2 118) (ig2 7467) (ag2 141)).2.1 := og5.2.1
    have qc9 : ¬ ((((ag2 117).getD (16 + x4).toNatClampNeg 0).toInt = 1) ∧ ((ig2 7427).toInt = 0)) → ig5 7465 = (gPaid (ig2 7426) x4 (ag2 118) (ig2 7467) (ag2 141)).2.2.1 := og5.2.2.1
    have qc10 : ¬ ((((ag2 117).getD (16 + x4).toNatClampNeg 0).toInt = 1) ∧ ((ig2 7427).toInt = 0)) → ig5 7466 = (gBuy (ig2 7431) (ag2 120) (ag2 121) (ag2 122) (ag2 123) (ig2 7432) (ag2 117) (ag2 118) (gPaid (ig2 7426) x4 (ag2 118) (ig2 7467) (ag2 141)).1 x4) := og5.2.2.2.1
    have qc11 : ¬ ((((ag2 117).getD (16 + x4).toNatClampNeg 0).toInt = 1) ∧ ((ig2 7427).toInt = 0)) → ig5 7467 = (gPaid (ig2 7426) x4 (ag2 118) (ig2 7467) (ag2 141)).2.2.2.1 := og5.2.2.2.2.1
    have qc12 : ¬ ((((ag2 117).getD (16 + x4).toNatClampNeg 0).toInt = 1) ∧ ((ig2 7427).toInt = 0)) → ag5 141 = (gPaid (ig2 7426) x4 (ag2 118) (ig2 7467) (ag2 141)).2.2.2.2 := og5.2.2.2.2.2.1
    have qc13 : (((ag2 117).getD (16 + x4).toNatClampNeg 0).toInt = 1) ∧ ((ig2 7427).toInt = 0) → ag5 118 = ag2 118 := og5.2.2.2.2.2.2.1
    have qc14 : (((ag2 117).getD (16 + x4).toNatClampNeg 0).toInt = 1) ∧ ((ig2 7427).toInt = 0) → ig5 7464 = 8 := og5.2.2.2.2.2.2.2.1
    have qc15 : (((ag2 117).getD (16 + x4).toNatClampNeg 0).toInt = 1) ∧ ((ig2 7427).toInt = 0) → ig5 7465 = 0 := og5.2.2.2.2.2.2.2.2.1
    have qc16 : (((ag2 117).getD (16 + x4).toNatClampNeg 0).toInt = 1) ∧ ((ig2 7427).toInt = 0) → ig5 7466 = 0 := og5.2.2.2.2.2.2.2.2.2.1
    have qc17 : (((ag2 117).getD (16 + x4).toNatClampNeg 0).toInt = 1) ∧ ((ig2 7427).toInt = 0) → ig5 7467 = ig2 7467 := og5.2.2.2.2.2.2.2.2.2.2.1
    have qc18 : (((ag2 117).getD (16 + x4).toNatClampNeg 0).toInt = 1) ∧ ((ig2 7427).toInt = 0) → ag5 141 = ag2 141 := og5.2.2.2.2.2.2.2.2.2.2.2
    have s19 : (x1 + 1).toInt = x1.toInt + (1 : Int32).toInt := kd_add (os6 hp0.1 kos1) (os263 hp0.2.2 hp4 kos1)
    refine fo_goS mi_k198 fz198_28_8_37 [.int x4, .int x3, .int x2, .int (x1 + 1), .ref 116] rfl ?_
    obtain ⟨m, hm, hmI⟩ := kj_pred (os264 hp1 hp4)
    refine ko_callI mi_k198.1 (pc := 37) (ls := [(0, .ref 116), (1, .int x1), (2, .int x2), (3, .int x3), (4, .int x4)]) (st := [.int x4, .int x3, .int x2, .int (x1 + 1), .ref 116]) (h := ks ig5 ag5 qg5 rg5) (i := (.invokevirtual 333, 3, 199, 0, 9, 0, 451)) (mi_k198.2 _ _ (by rfl)) (ft_invS mi_pq199 (by rfl)) (cy := mi_c199) mi_pq199 rfl ((ih m hm).1 _ _ _ _ hGg5.I hGg5.R (x1 + 1) x2 x3 x4 (os265 hp0.1 hp0.2.2 hp4 s19 kos1) (os266 hmI hp1 s19 kos1) (os12 hp2.1 hp2.2) (os12 hp3.1 hp3.2) (kCode_of (i1 := ig5) hE_code (hGg5.fi 7432 rfl) (hGg5.fa 120 rfl) (hGg5.fa 121 rfl) (hGg5.fa 122 rfl) (hGg5.fa 123 rfl))) (kj_d2 (n := n) (m := m) (o := 31) (o1 := 30) hm (by decide)) ?_
    intro vg20 ig20 ag20 qg20 rg20 kg20 hg20
    have hGg20 := kG_call hGg5 kg20 (by decide +kernel)
    obtain ⟨hg20, og20⟩ := hg20
    refine fo_goL mi_k198 fz198_40_7_51 [(5, .int vg20), (0, .ref 116), (1, .int x1), (2, .int x2), (3, .int x3), (4, .int x4)] [.int (31 * x1), .ref 140, .ref 116] rfl ?_
    refine ko_callN mi_k198.1 (pc := 51) (ls := [(5, .int vg20), (0, .ref 116), (1, .int x1), (2, .int x2), (3, .int x3), (4, .int x4)]) (st := [.int (31 * x1), .ref 140, .ref 116]) (h := ks ig20 ag20 qg20 rg20) (i := (.invokevirtual 273, 3, 169, 0, 9, 0, 423)) (mi_k198.2 _ _ (by rfl)) (ft_invS mi_pq169 (by rfl)) (cy := mi_c169) mi_pq169 rfl (ke169_116_140 hGg20.I hGg20.R (31 * x1) (os204 hp0.1 hp0.2.2 hp4 s1) (by have := kos0; have := kos1; omega)) (kj_d3 (n := n) (c := 1) (o1 := 30) (by decide)) ?_
    intro ig21 ag21 qg21 rg21 kg21 hg21
    have hGg21 := kG_call hGg20 kg21 (by decide +kernel)
    obtain ⟨hg21, og21⟩ := hg21
    refine ft_goS mi_k198 1 56 [.int vg20] (by rfl) ?_
    exact ft_ret mi_k198 (by rfl) (hP vg20 _ _ _ _ hGg21 ⟨trivial, (ca_end (b := (31 * x1).toInt.toNat) (b1 := (31 * (x1 + 1).toInt).toNat) (b2 := (31 * x1.toInt).toNat) (kCopd_cast og2.1 rfl rfl (Int.le_refl _)) (kLow_cast og2.2 rfl rfl (Nat.le_refl _)) ((kg5.fa 140 rfl)) og20.2 (kCopb_cast og21 rfl rfl (Int.le_refl _)) (kg21.fa 140 rfl) (kj_31 (os267 s1) (os32 s19 kos1) (os0 hp0.1)) (kj_31b (os267 s1)) (hGg21.I.2.1 118) (hG.I.2.1 118))⟩)
  ·
    have c22 : (x1 - x1 / 2 * 2).toInt = (0 : Int32).toInt := kd_neF c; clear c
    first | refine ft_goS mi_k198 2 25 [.int x3, .ref 116] (by rfl) ?_
    refine ko_callI mi_k198.1 (pc := 25) (ls := [(0, .ref 116), (1, .int x1), (2, .int x2), (3, .int x3), (4, .int x4)]) (st := [.int x3, .ref 116]) (h := ks ig2 ag2 qg2 rg2) (i := (.invokevirtual 260, 3, 166, 0, 9, 0, 415)) (mi_k198.2 _ _ (by rfl)) (ft_invS mi_pq166 (by rfl)) (cy := mi_c166) mi_pq166 rfl (ke166_116 hGg2.I hGg2.R x3 (os12 hp2.1 hp2.2) (kCode_of (i1 := ig2) hE_code (hGg2.fi 7432 rfl) (hGg2.fa 120 rfl) (hGg2.fa 121 rfl) (hGg2.fa 122 rfl) (hGg2.fa 123 rfl))) (kj_d3 (n := n) (c := 9) (o1 := 30) (by decide)) ?_
    intro vg23 ig23 ag23 qg23 rg23 kg23 hg23
    have hGg23 := kG_call hGg2 kg23 (by decide +kernel)
    obtain ⟨hg23, og23⟩ := hg23
    have efig2_7427 : (ig2 7427).toInt = (i 7427).toInt := kg2.ti 7427 rfl
    have z24 : ((vg23.toInt = 1) ∧ (¬ ((((ag2 117).getD (16 + x3).toNatClampNeg 0).toInt = 1) ∧ ((ig2 7427).toInt = 0)))) ∨ ((vg23.toInt = 0) ∧ (((ag2 117).getD (16 + x3).toNatClampNeg 0).toInt = 1) ∧ ((ig2 7427).toInt = 0)) := hg23
    have qc25 : ¬ ((((ag2 117).getD (16 + x3).toNatClampNeg 0).toInt = 1) ∧ ((ig2 7427).toInt = 0)) → ag23 118 = sCome x3 (gBuy (ig2 7431) (ag2 120) (ag2 121) (ag2 122) (ag2 123) (ig2 7432) (ag2 117) (ag2 118) (gPaid (ig2 7426) x3 (ag2 118) (ig2 7467) (ag2 141)).1 x3) (gPaid (ig2 7426) x3 (ag2 118) (ig2 7467) (ag2 141)).1 := og23.1
    have qc26 : ¬ ((((ag2 117).getD (16 + x3).toNatClampNeg 0).toInt = 1) ∧ ((ig2 7427).toInt = 0)) → ig23 7464 = (gPaid (ig2 7426) x3 (ag2 118) (ig2 7467) (ag2 141)).2.1 := og23.2.1
    have qc27 : ¬ ((((ag2 117).getD (16 + x3).toNatClampNeg 0).toInt = 1) ∧ ((ig2 7427).toInt = 0)) → ig23 7465 = (gPaid (ig2 7426) x3 (ag2 118) (ig2 7467) (ag2 141)).2.2.1 := og23.2.2.1
    have qc28 : ¬ ((((ag2 117).getD (16 + x3).toNatClampNeg 0).toInt = 1) ∧ ((ig2 7427).toInt = 0)) → ig23 7466 = (gBuy (ig2 7431) (ag2 120) (ag2 121) (ag2 122) (ag2 123) (ig2 7432) (ag2 117) (ag2 118) (gPaid (ig2 7426) x3 (ag2 118) (ig2 7467) (ag2 141)).1 x3) := og23.2.2.2.1
    have qc29 : ¬ ((((ag2 117).getD (16 + x3).toNatClampNeg 0).toInt = 1) ∧ ((ig2 7427).toInt = 0)) → ig23 7467 = (gPaid (ig2 7426) x3 (ag2 118) (ig2 7467) (ag2 141)).2.2.2.1 := og23.2.2.2.2.1
    have qc30 : ¬ ((((ag2 117).getD (16 + x3).toNatClampNeg 0).toInt = 1) ∧ ((ig2 7427).toInt = 0)) → ag23 141 = (gPaid (ig2 7426) x3 (ag2 118) (ig2 7467) (ag2 141)).2.2.2.2 := og23.2.2.2.2.2.1
    have qc31 : (((ag2 117).getD (16 + x3).toNatClampNeg 0).toInt = 1) ∧ ((ig2 7427).toInt = 0) → ag23 118 = ag2 118 := og23.2.2.2.2.2.2.1
    have qc32 : (((ag2 117).getD (16 + x3).toNatClampNeg 0).toInt = 1) ∧ ((ig2 7427).toInt = 0) → ig23 7464 = 8 := og23.2.2.2.2.2.2.2.1
    have qc33 : (((ag2 117).getD (16 + x3).toNatClampNeg 0).toInt = 1) ∧ ((ig2 7427).toInt = 0) → ig23 7465 = 0 := og23.2.2.2.2.2.2.2.2.1
    have qc34 : (((ag2 117).getD (16 + x3).toNatClampNeg 0).toInt = 1) ∧ ((ig2 7427).toInt = 0) → ig23 7466 = 0 := og23.2.2.2.2.2.2.2.2.2.1
    have qc35 : (((ag2 117).getD (16 + x3).toNatClampNeg 0).toInt = 1) ∧ ((ig2 7427).toInt = 0) → ig23 7467 = ig2 7467 := og23.2.2.2.2.2.2.2.2.2.2.1
    have qc36 : (((ag2 117).getD (16 + x3).toNatClampNeg 0).toInt = 1) ∧ ((ig2 7427).toInt = 0) → ag23 141 = ag2 141 := og23.2.2.2.2.2.2.2.2.2.2.2
    have s37 : (x1 + 1).toInt = x1.toInt + (1 : Int32).toInt := kd_add (os6 hp0.1 kos1) (os263 hp0.2.2 hp4 kos1)
    refine fo_goS mi_k198 fz198_28_8_37 [.int x4, .int x3, .int x2, .int (x1 + 1), .ref 116] rfl ?_
    obtain ⟨m, hm, hmI⟩ := kj_pred (os264 hp1 hp4)
    refine ko_callI mi_k198.1 (pc := 37) (ls := [(0, .ref 116), (1, .int x1), (2, .int x2), (3, .int x3), (4, .int x4)]) (st := [.int x4, .int x3, .int x2, .int (x1 + 1), .ref 116]) (h := ks ig23 ag23 qg23 rg23) (i := (.invokevirtual 333, 3, 199, 0, 9, 0, 451)) (mi_k198.2 _ _ (by rfl)) (ft_invS mi_pq199 (by rfl)) (cy := mi_c199) mi_pq199 rfl ((ih m hm).1 _ _ _ _ hGg23.I hGg23.R (x1 + 1) x2 x3 x4 (os265 hp0.1 hp0.2.2 hp4 s37 kos1) (os266 hmI hp1 s37 kos1) (os12 hp2.1 hp2.2) (os12 hp3.1 hp3.2) (kCode_of (i1 := ig23) hE_code (hGg23.fi 7432 rfl) (hGg23.fa 120 rfl) (hGg23.fa 121 rfl) (hGg23.fa 122 rfl) (hGg23.fa 123 rfl))) (kj_d2 (n := n) (m := m) (o := 31) (o1 := 30) hm (by decide)) ?_
    intro vg38 ig38 ag38 qg38 rg38 kg38 hg38
    have hGg38 := kG_call hGg23 kg38 (by decide +kernel)
    obtain ⟨hg38, og38⟩ := hg38
    refine fo_goL mi_k198 fz198_40_7_51 [(5, .int vg38), (0, .ref 116), (1, .int x1), (2, .int x2), (3, .int x3), (4, .int x4)] [.int (31 * x1), .ref 140, .ref 116] rfl ?_
    refine ko_callN mi_k198.1 (pc := 51) (ls := [(5, .int vg38), (0, .ref 116), (1, .int x1), (2, .int x2), (3, .int x3), (4, .int x4)]) (st := [.int (31 * x1), .ref 140, .ref 116]) (h := ks ig38 ag38 qg38 rg38) (i := (.invokevirtual 273, 3, 169, 0, 9, 0, 423)) (mi_k198.2 _ _ (by rfl)) (ft_invS mi_pq169 (by rfl)) (cy := mi_c169) mi_pq169 rfl (ke169_116_140 hGg38.I hGg38.R (31 * x1) (os204 hp0.1 hp0.2.2 hp4 s1) (by have := kos0; have := kos1; omega)) (kj_d3 (n := n) (c := 1) (o1 := 30) (by decide)) ?_
    intro ig39 ag39 qg39 rg39 kg39 hg39
    have hGg39 := kG_call hGg38 kg39 (by decide +kernel)
    obtain ⟨hg39, og39⟩ := hg39
    refine ft_goS mi_k198 1 56 [.int vg38] (by rfl) ?_
    exact ft_ret mi_k198 (by rfl) (hP vg38 _ _ _ _ hGg39 ⟨trivial, (ca_end (b := (31 * x1).toInt.toNat) (b1 := (31 * (x1 + 1).toInt).toNat) (b2 := (31 * x1.toInt).toNat) (kCopd_cast og2.1 rfl rfl (Int.le_refl _)) (kLow_cast og2.2 rfl rfl (Nat.le_refl _)) ((kg23.fa 140 rfl)) og38.2 (kCopb_cast og39 rfl rfl (Int.le_refl _)) (kg39.fa 140 rfl) (kj_31 (os267 s1) (os32 s37 kos1) (os0 hp0.1)) (kj_31b (os267 s1)) (hGg39.I.2.1 118) (hG.I.2.1 118))⟩)
set_option maxRecDepth 100000 in
theorem kLsUE_199 (n : Nat) (h198 : kLUE_198 n) (ih : ∀ m, n = m + 1 → kLUE_199 m ∧ kLUE_198 m) : kLUE_199 n := by
  intro i a q r hI hr x1 x2 x3 x4 hp0 hp1 hp2 hp3 hE_code
  have hG := kG_self wUE hI hr
  refine km_ofI (q := (mi_h199, mi_c199)) rfl (by decide) (Nat.le_of_ble_eq_true rfl) ?_
  intro P hP
  have hn0 : (0 : Int) ≤ (n : Int) := Int.natCast_nonneg n
  refine ft_goL mi_k199 2 2 [(0, .ref 116), (1, .int x1), (2, .int x2), (3, .int x3), (4, .int x4)] [.int x2, .int x1] (by rfl) ?_
  refine ft_ifS mi_k199 (x1 != x2) 20 5 [] (by rfl) (fun c => ?_) (fun c => ?_)
  ·
    have c1 : x1.toInt ≠ x2.toInt := kd_ne c; clear c
    have s2 : (x1 + 1).toInt = x1.toInt + (1 : Int32).toInt := kd_add (os6 hp0.1 kos1) (os268 hp0.2.1 hp0.2.2 kos1)
    refine fo_goS mi_k199 fz199_20_7_28 [.int x4, .int x3, .int x2, .int (x1 + 1), .ref 116] rfl ?_
    obtain ⟨m, hm, hmI⟩ := kj_pred (os269 c1 hn0 hp1)
    refine ko_callI mi_k199.1 (pc := 28) (ls := [(0, .ref 116), (1, .int x1), (2, .int x2), (3, .int x3), (4, .int x4)]) (st := [.int x4, .int x3, .int x2, .int (x1 + 1), .ref 116]) (h := ks i a q r) (i := (.invokevirtual 333, 3, 199, 0, 9, 0, 451)) (mi_k199.2 _ _ (by rfl)) (ft_invS mi_pq199 (by rfl)) (cy := mi_c199) mi_pq199 rfl ((ih m hm).1 _ _ _ _ hG.I hG.R (x1 + 1) x2 x3 x4 (os270 c1 hp0.1 hp0.2.1 hp0.2.2 s2 kos1) (os266 hmI hp1 s2 kos1) (os12 hp2.1 hp2.2) (os12 hp3.1 hp3.2) (kCode_of (i1 := i) hE_code (hG.fi 7432 rfl) (hG.fa 120 rfl) (hG.fa 121 rfl) (hG.fa 122 rfl) (hG.fa 123 rfl))) (kj_d2 (n := n) (m := m) (o := 31) (o1 := 31) hm (by decide)) ?_
    intro vg3 ig3 ag3 qg3 rg3 kg3 hg3
    have hGg3 := kG_call hG kg3 (by decide +kernel)
    obtain ⟨hg3, og3⟩ := hg3
    refine fo_goL mi_k199 fz199_31_6_39 [(5, .int vg3), (0, .ref 116), (1, .int x1), (2, .int x2), (3, .int x3), (4, .int x4)] [.int x4, .int x3, .int x2, .int x1, .ref 116] rfl ?_
    refine ko_callI mi_k199.1 (pc := 39) (ls := [(5, .int vg3), (0, .ref 116), (1, .int x1), (2, .int x2), (3, .int x3), (4, .int x4)]) (st := [.int x4, .int x3, .int x2, .int x1, .ref 116]) (h := ks ig3 ag3 qg3 rg3) (i := (.invokevirtual 337, 3, 198, 0, 9, 0, 452)) (mi_k199.2 _ _ (by rfl)) (ft_invS mi_pq198 (by rfl)) (cy := mi_c198) mi_pq198 rfl (h198 _ _ _ _ hGg3.I hGg3.R x1 x2 x3 x4 (os271 hp0.1 hp0.2.1 hp0.2.2) (os272 hp1) (os12 hp2.1 hp2.2) (os12 hp3.1 hp3.2) (os273 c1 hp0.2.1) (kCode_of (i1 := ig3) hE_code (hGg3.fi 7432 rfl) (hGg3.fa 120 rfl) (hGg3.fa 121 rfl) (hGg3.fa 122 rfl) (hGg3.fa 123 rfl))) (kj_d1 (n := n) (o := 30) (o1 := 31) (by decide)) ?_
    intro vg4 ig4 ag4 qg4 rg4 kg4 hg4
    have hGg4 := kG_call hGg3 kg4 (by decide +kernel)
    obtain ⟨hg4, og4⟩ := hg4
    have s5 : (x1 - x1 / 2 * 2).toInt = (x1.toInt % 2) := kd_rem 2 kos2 (by decide) (os0 hp0.1)
    refine ft_goL mi_k199 4 47 [(6, .int vg4), (5, .int vg3), (0, .ref 116), (1, .int x1), (2, .int x2), (3, .int x3), (4, .int x4)] [.int (x1 - x1 / 2 * 2)] (by rfl) ?_
    refine ft_ifS mi_k199 ((x1 - x1 / 2 * 2) != 0) 60 50 [] (by rfl) (fun c => ?_) (fun c => ?_)
    ·
      have c6 : (x1 - x1 / 2 * 2).toInt ≠ (0 : Int32).toInt := kd_ne c; clear c
      refine ft_goS mi_k199 2 64 [.int vg4, .int vg3] (by rfl) ?_
      have m8 : (((bif decide (vg4 < vg3) then vg4 else vg3).toInt ≤ vg3.toInt) ∧ ((bif decide (vg4 < vg3) then vg4 else vg3).toInt ≤ vg4.toInt)) ∧ ((bif decide (vg4 < vg3) then vg4 else vg3).toInt = vg3.toInt ∨ (bif decide (vg4 < vg3) then vg4 else vg3).toInt = vg4.toInt) := kd_min
      first | refine ft_goS mi_k199 1 67 [.int (bif decide (vg4 < vg3) then vg4 else vg3)] (by rfl) ?_
      generalize hm7 : (bif decide (vg4 < vg3) then vg4 else vg3) = m7 at m8 ⊢
      have qm7 := hm7.symm
      exact ft_ret mi_k199 (by rfl) (hP m7 _ _ _ _ hGg4 ⟨trivial, ⟨(show ag4 118 = a 118 from (rfl).trans ((og4.1).trans ((rfl).trans ((og3.1).trans rfl)))), kLow_trans (kLow_cast og4.2 (rfl) (rfl) (Nat.le_refl _)) (kLow_cast og3.2 rfl rfl (Nat.le_refl _)) (kj_31c (os32 s2 kos1))⟩⟩)
    ·
      have c9 : (x1 - x1 / 2 * 2).toInt = (0 : Int32).toInt := kd_neF c; clear c
      refine ft_goS mi_k199 2 54 [.int vg4, .int vg3] (by rfl) ?_
      have m11 : ((vg3.toInt ≤ (bif decide (vg3 < vg4) then vg4 else vg3).toInt) ∧ (vg4.toInt ≤ (bif decide (vg3 < vg4) then vg4 else vg3).toInt)) ∧ ((bif decide (vg3 < vg4) then vg4 else vg3).toInt = vg3.toInt ∨ (bif decide (vg3 < vg4) then vg4 else vg3).toInt = vg4.toInt) := kd_max
      refine ft_goS mi_k199 1 57 [.int (bif decide (vg3 < vg4) then vg4 else vg3)] (by rfl) ?_
      generalize hm10 : (bif decide (vg3 < vg4) then vg4 else vg3) = m10 at m11 ⊢
      have qm10 := hm10.symm
      first | refine ft_goS mi_k199 1 67 [.int m10] (by rfl) ?_
      exact ft_ret mi_k199 (by rfl) (hP m10 _ _ _ _ hGg4 ⟨trivial, ⟨(show ag4 118 = a 118 from (rfl).trans ((og4.1).trans ((rfl).trans ((og3.1).trans rfl)))), kLow_trans (kLow_cast og4.2 (rfl) (rfl) (Nat.le_refl _)) (kLow_cast og3.2 rfl rfl (Nat.le_refl _)) (kj_31c (os32 s2 kos1))⟩⟩)
  ·
    have c12 : x1.toInt = x2.toInt := kd_neF c; clear c
    refine ft_goS mi_k199 3 10 [.int x3, .ref 118] (by rfl) ?_
    refine ko_iald3 mi_k199.1 (n := 31) (c := 31) (ax := (0, 0, 0, 0, 0)) (mi_k199.2 _ _ (by rfl)) (by rfl) (ksG118 _ _ _ _) (hG.I.2.1 118) rfl (os0 hp2.1) (os45 hp2.2) ?_
    have r13 : ((x3.toInt = 18 → (0 : Int) ≤ ((a 118).getD x3.toNatClampNeg 0).toInt ∧ ((a 118).getD x3.toNatClampNeg 0).toInt ≤ 5)) ∧ ((19 ≤ x3.toInt → x3.toInt ≤ 24 → (0 : Int) ≤ ((a 118).getD x3.toNatClampNeg 0).toInt ∧ ((a 118).getD x3.toNatClampNeg 0).toInt ≤ 7)) := kE_ncond (p := 118) hG.I (by decide) (j := x3) (os0 hp2.1)
    refine ft_goS mi_k199 3 17 [.int x4, .ref 118, .int ((a 118).getD x3.toNatClampNeg 0)] (by rfl) ?_
    refine ko_iald3 mi_k199.1 (n := 31) (c := 31) (ax := (0, 0, 0, 0, 0)) (mi_k199.2 _ _ (by rfl)) (by rfl) (ksG118 _ _ _ _) (hG.I.2.1 118) rfl (os0 hp3.1) (os45 hp3.2) ?_
    have r14 : ((x4.toInt = 18 → (0 : Int) ≤ ((a 118).getD x4.toNatClampNeg 0).toInt ∧ ((a 118).getD x4.toNatClampNeg 0).toInt ≤ 5)) ∧ ((19 ≤ x4.toInt → x4.toInt ≤ 24 → (0 : Int) ≤ ((a 118).getD x4.toNatClampNeg 0).toInt ∧ ((a 118).getD x4.toNatClampNeg 0).toInt ≤ 7)) := kE_ncond (p := 118) hG.I (by decide) (j := x4) (os0 hp3.1)
    have b15 : ((-2147483648 : Int) ≤ ((a 118).getD x3.toNatClampNeg 0).toInt) ∧ (((a 118).getD x3.toNatClampNeg 0).toInt ≤ 2147483647) := kd_bd ((a 118).getD x3.toNatClampNeg 0)
    have b16 : ((-2147483648 : Int) ≤ ((a 118).getD x4.toNatClampNeg 0).toInt) ∧ (((a 118).getD x4.toNatClampNeg 0).toInt ≤ 2147483647) := kd_bd ((a 118).getD x4.toNatClampNeg 0)
    refine ft_goS mi_k199 1 19 [.int (((a 118).getD x3.toNatClampNeg 0) - ((a 118).getD x4.toNatClampNeg 0))] (by rfl) ?_
    exact ft_ret mi_k199 (by rfl) (hP (((a 118).getD x3.toNatClampNeg 0) - ((a 118).getD x4.toNatClampNeg 0)) _ _ _ _ hG ⟨trivial, ⟨(show a 118 = a 118 from rfl), kLow_eq (rfl)⟩⟩)
theorem kLallUE : ∀ n : Nat, kLUE_199 n ∧ kLUE_198 n
  | 0 => by
    have ih : ∀ m, 0 = m + 1 → kLUE_199 m ∧ kLUE_198 m := fun m h => by omega
    have h198 := kLsUE_198 0  ih
    have h199 := kLsUE_199 0 h198 ih
    exact ⟨h199, h198⟩
  | n + 1 => by
    have ih : ∀ m, n + 1 = m + 1 → kLUE_199 m ∧ kLUE_198 m := fun m h => by
      have e : n = m := by omega
      subst e
      exact kLallUE n
    have h198 := kLsUE_198 (n + 1)  ih
    have h199 := kLsUE_199 (n + 1) h198 ih
    exact ⟨h199, h198⟩
noncomputable def yw185_116 : kW := ([7464, 7465, 7466, 7467, 7469, 7476], [118, 128, 129, 139, 141, 142, 143, 144, 145, 146, 147], [], [])
set_option maxRecDepth 100000 in
theorem ke185_116 {i : Nat → Int32} {a : Nat → List Int32} {q : Nat → List Int64} {r : Nat → Nat} (hI : kI i a q) (hr : kr r) (x1 : Int32) (x2 : Int32) (x3 : Int32) (hE_code : kCode i a) : km 63 185 [.ref 116, .int x1, .int x2, .int x3] (ks i a q r) (kVI yw185_116 i a q r (fun v i1 a1 q1 r1 => (True) ∧ a1 118 = a 118)) := by
  have hG := kG_self yw185_116 hI hr
  refine km_ofI (q := (mi_h185, mi_c185)) rfl (by decide) (Nat.le_of_ble_eq_true rfl) ?_
  intro P hP
  have fi_7424 : ((0 : Int) ≤ (i 7424).toInt) ∧ ((i 7424).toInt ≤ 8) := hG.I.1 7424
  have s1 : ((1 : Int) ≤ (1 <<< ((i 7424) &&& 31)).toInt) ∧ ((1 <<< ((i 7424) &&& 31)).toInt ≤ 256) := kd_shl1 (os0 fi_7424.1) (os274 fi_7424.2)
  have s2 : ((1 <<< ((i 7424) &&& 31)) - 1).toInt = (1 <<< ((i 7424) &&& 31)).toInt - (1 : Int32).toInt := kd_sub (os147 s1.1 kos1) (os275 s1.2 kos1)
  refine ft_goL mi_k185 8 10 [(0, .ref 116), (1, .int x1), (2, .int x2), (3, .int x3)] [.int ((1 <<< ((i 7424) &&& 31)) - 1), .int 0, .int x1] (by rfl) ?_
  refine ko_callPI mi_k185.1 (pc := 10) (ls := [(0, .ref 116), (1, .int x1), (2, .int x2), (3, .int x3)]) (st := [.int ((1 <<< ((i 7424) &&& 31)) - 1), .int 0, .int x1]) (h := ks i a q r) (i := (.invokestatic 119, 3, 131, 0, 9, 0, 379)) (mi_k185.2 _ _ (by rfl)) (ft_invS mi_pq131 (by rfl)) (cy := mi_c131) mi_pq131 rfl (kc131 hG.I hG.R x1 0 ((1 <<< ((i 7424) &&& 31)) - 1)) (by decide) ?_
  intro vg3 hg3
  rcases hg3 with ⟨eg3, hg3⟩ | ⟨eg3, hg3⟩
  ·
    subst eg3
    have z4 : ((0 : Int32).toInt ≤ x1.toInt) ∧ (x1.toInt ≤ ((1 <<< ((i 7424) &&& 31)) - 1).toInt) := hg3
    refine ft_goS mi_k185 3 18 [.int x2, .ref 116] (by rfl) ?_
    refine ko_callPI mi_k185.1 (pc := 18) (ls := [(0, .ref 116), (1, .int x1), (2, .int x2), (3, .int x3)]) (st := [.int x2, .ref 116]) (h := ks i a q r) (i := (.invokevirtual 137, 3, 132, 0, 9, 0, 387)) (mi_k185.2 _ _ (by rfl)) (ft_invS mi_pq132 (by rfl)) (cy := mi_c132) mi_pq132 rfl (kc132_116 hG.I hG.R x2) (by decide) ?_
    intro vg5 hg5
    rcases hg5 with ⟨eg5, hg5⟩ | ⟨eg5, hg5⟩
    ·
      subst eg5
      have z6 : ((0 : Int) ≤ x2.toInt) ∧ (x2.toInt < (i 7424).toInt) := hg5
      refine ft_goS mi_k185 3 26 [.int (-1), .int x3] (by rfl) ?_
      refine ft_ifS mi_k185 (decide ((-1) ≤ x3)) 31 29 [] (by rfl) (fun c => ?_) (fun c => ?_)
      ·
        have c7 : ((-1) : Int32).toInt ≤ x3.toInt := kd_le c; clear c
        have kb8 : (0 : Int) ≤ (kbc x1).toInt := kbc_nn (os282 z4.1 kos0) (os283 s1.2 s2 z4.2 kos1)
        refine ft_goS mi_k185 1 32 [.int x1] (by rfl) ?_
        refine ko_callPI mi_k185.1 (pc := 32) (ls := [(0, .ref 116), (1, .int x1), (2, .int x2), (3, .int x3)]) (st := [.int x1]) (h := ks i a q r) (i := (.invokestatic 303, 3, 226, 0, 9, 0, 435)) (mi_k185.2 _ _ (by rfl)) (ft_invS mi_pq226 (by rfl)) (cy := mi_c226) mi_pq226 rfl (kc226 hG.I hG.R x1) (by decide) ?_
        intro vg9 hg9
        have z10 : vg9.toInt = (kbc x1).toInt := hg9
        refine ft_goS mi_k185 1 36 [.int 5, .int vg9] (by rfl) ?_
        refine ft_ifS mi_k185 (decide (vg9 ≤ 5)) 42 39 [] (by rfl) (fun c => ?_) (fun c => ?_)
        ·
          have c11 : vg9.toInt ≤ (5 : Int32).toInt := kd_le c; clear c
          refine ft_goS mi_k185 2 44 [.int x1, .int x3] (by rfl) ?_
          refine ko_callPI mi_k185.1 (pc := 44) (ls := [(0, .ref 116), (1, .int x1), (2, .int x2), (3, .int x3)]) (st := [.int x1, .int x3]) (h := ks i a q r) (i := (.invokestatic 303, 3, 226, 0, 9, 0, 435)) (mi_k185.2 _ _ (by rfl)) (ft_invS mi_pq226 (by rfl)) (cy := mi_c226) mi_pq226 rfl (kc226 hG.I hG.R x1) (by decide) ?_
          intro vg12 hg12
          have z13 : vg12.toInt = (kbc x1).toInt := hg12
          refine ft_ifS mi_k185 (decide (x3 < vg12)) 53 50 [] (by rfl) (fun c => ?_) (fun c => ?_)
          ·
            have c14 : x3.toInt < vg12.toInt := kd_lt c; clear c
            have hJ15 := kG_i hG 7476 rfl (v := (-1)) (kd_bd _)
            first | refine fo_goI mi_k185 fz185_53_7_62 [.int x2, .int x1, .int 0, .ref 116] (ku i 7476 (-1)) (by rfl) ?_ | refine ft_go mi_k185 7 62 [(0, .ref 116), (1, .int x1), (2, .int x2), (3, .int x3)] [.int x2, .int x1, .int 0, .ref 116] (ku i 7476 (-1)) a q r (by rfl) ?_
            have nn0 := kos0
            have nn0 := kos0
            refine ko_callN mi_k185.1 (pc := 62) (ls := [(0, .ref 116), (1, .int x1), (2, .int x2), (3, .int x3)]) (st := [.int x2, .int x1, .int 0, .ref 116]) (h := ks (ku i 7476 (-1)) a q r) (i := (.invokevirtual 300, 3, 184, 0, 9, 0, 436)) (mi_k185.2 _ _ (by rfl)) (ft_invS mi_pq184 (by rfl)) (cy := mi_c184) mi_pq184 rfl ((kLallOE ((kbc x1).toInt.toNat)) _ _ _ _ hJ15.I hJ15.R 0 x1 x2 (os19 kos0) (os284 s1.2 s2 z4.1 z4.2 kos1 kos0) (os285 fi_7424.2 z6.1 z6.2) (os286 c11 z10 kos5 kos0) (by have := kosm1; have := kos0; have := kos1; have := kos5; omega) (kCode_of (i1 := ku i 7476 (-1)) hE_code (hJ15.fi 7432 rfl) (hJ15.fa 120 rfl) (hJ15.fa 121 rfl) (hJ15.fa 122 rfl) (hJ15.fa 123 rfl))) (by have := kn0; have := kn1; have := kn5; omega) ?_
            intro ig16 ag16 qg16 rg16 kg16 hg16
            have hGg16 := kG_call hJ15 kg16 (by decide +kernel)
            obtain ⟨hg16, og16⟩ := hg16
            refine ft_goS mi_k185 2 67 [.int (-1), .int x3] (by rfl) ?_
            refine ft_ifS mi_k185 (x3 != (-1)) 77 70 [] (by rfl) (fun c => ?_) (fun c => ?_)
            ·
              have c17 : x3.toInt ≠ ((-1) : Int32).toInt := kd_ne c; clear c
              refine ft_goS mi_k185 3 82 [.int x3, .ref 147] (by rfl) ?_
              refine ko_iald3 mi_k185.1 (n := 5) (c := 5) (ax := (0, 0, 0, 0, 0)) (mi_k185.2 _ _ (by rfl)) (by rfl) (ksG147 _ _ _ _) (hGg16.I.2.1 147) rfl (os287 c17 c7 kosm1) (os288 c11 c14 z10 z13 kos5) ?_
              exact ft_ret mi_k185 (by rfl) (hP ((ag16 147).getD x3.toNatClampNeg 0) _ _ _ _ hGg16 ⟨trivial, (show ag16 118 = a 118 from (by first | rfl | (simp only [og16, sMn, sMx]; done) | (simp only [og16, sMn, sMx]; rfl)))⟩)
            ·
              have c18 : x3.toInt = ((-1) : Int32).toInt := kd_neF c; clear c
              first | refine ft_goS mi_k185 3 83 [.int (ig16 7476)] (by rfl) ?_
              exact ft_ret mi_k185 (by rfl) (hP (ig16 7476) _ _ _ _ hGg16 ⟨trivial, (show ag16 118 = a 118 from (by first | rfl | (simp only [og16, sMn, sMx]; done) | (simp only [og16, sMn, sMx]; rfl)))⟩)
          ·
            have c19 : vg12.toInt ≤ x3.toInt := kd_ltF c; clear c
            refine ft_goS mi_k185 1 52 [.int (-2)] (by rfl) ?_
            exact ft_ret mi_k185 (by rfl) (hP (-2) _ _ _ _ hG ⟨trivial, (show a 118 = a 118 from rfl)⟩)
        ·
          have c20 : (5 : Int32).toInt < vg9.toInt := kd_leF c; clear c
          refine ft_goS mi_k185 1 41 [.int (-5)] (by rfl) ?_
          exact ft_ret mi_k185 (by rfl) (hP (-5) _ _ _ _ hG ⟨trivial, (show a 118 = a 118 from rfl)⟩)
      ·
        have c21 : x3.toInt < ((-1) : Int32).toInt := kd_leF c; clear c
        refine ft_goS mi_k185 1 30 [.int (-1)] (by rfl) ?_
        exact ft_ret mi_k185 (by rfl) (hP (-1) _ _ _ _ hG ⟨trivial, (show a 118 = a 118 from rfl)⟩)
    ·
      subst eg5
      first | refine ft_goS mi_k185 2 30 [.int (-1)] (by rfl) ?_
      exact ft_ret mi_k185 (by rfl) (hP (-1) _ _ _ _ hG ⟨trivial, (show a 118 = a 118 from rfl)⟩)
  ·
    subst eg3
    first | refine ft_goS mi_k185 2 30 [.int (-1)] (by rfl) ?_
    exact ft_ret mi_k185 (by rfl) (hP (-1) _ _ _ _ hG ⟨trivial, (show a 118 = a 118 from rfl)⟩)
noncomputable def yw200_116 : kW := ([7464, 7465, 7466, 7467], [118, 128, 129, 140, 141], [], [])
set_option maxRecDepth 100000 in
theorem ke200_116 {i : Nat → Int32} {a : Nat → List Int32} {q : Nat → List Int64} {r : Nat → Nat} (hI : kI i a q) (hr : kr r) (x1 : Int32) (x2 : Int32) (x3 : Int32) (hE_code : kCode i a) : km 64 200 [.ref 116, .int x1, .int x2, .int x3] (ks i a q r) (kVI yw200_116 i a q r (fun v i1 a1 q1 r1 => (True) ∧ a1 118 = a 118)) := by
  have hG := kG_self yw200_116 hI hr
  refine km_ofI (q := (mi_h200, mi_c200)) rfl (by decide) (Nat.le_of_ble_eq_true rfl) ?_
  intro P hP
  refine ft_goL mi_k200 2 2 [(0, .ref 116), (1, .int x1), (2, .int x2), (3, .int x3)] [.int x1, .ref 116] (by rfl) ?_
  refine ko_callPI mi_k200.1 (pc := 2) (ls := [(0, .ref 116), (1, .int x1), (2, .int x2), (3, .int x3)]) (st := [.int x1, .ref 116]) (h := ks i a q r) (i := (.invokevirtual 308, 3, 186, 0, 9, 0, 438)) (mi_k200.2 _ _ (by rfl)) (ft_invS mi_pq186 (by rfl)) (cy := mi_c186) mi_pq186 rfl (kc186_116 hG.I hG.R x1) (by decide) ?_
  intro vg1 hg1
  rcases hg1 with ⟨eg1, hg1⟩ | ⟨eg1, hg1⟩
  ·
    subst eg1
    have fi_7424 : ((0 : Int) ≤ (i 7424).toInt) ∧ ((i 7424).toInt ≤ 8) := hG.I.1 7424
    have z2 : ((0 : Int) ≤ x1.toInt) ∧ (((x1.toInt / 10) < (i 7424).toInt) ∧ ((x1.toInt % 10) < (i 7424).toInt)) ∧ ((x1.toInt / 10) ≠ (x1.toInt % 10)) := hg1
    refine ft_goS mi_k200 4 11 [.int 5, .int 1, .int x2] (by rfl) ?_
    refine ko_callPI mi_k200.1 (pc := 11) (ls := [(0, .ref 116), (1, .int x1), (2, .int x2), (3, .int x3)]) (st := [.int 5, .int 1, .int x2]) (h := ks i a q r) (i := (.invokestatic 119, 3, 131, 0, 9, 0, 379)) (mi_k200.2 _ _ (by rfl)) (ft_invS mi_pq131 (by rfl)) (cy := mi_c131) mi_pq131 rfl (kc131 hG.I hG.R x2 1 5) (by decide) ?_
    intro vg3 hg3
    rcases hg3 with ⟨eg3, hg3⟩ | ⟨eg3, hg3⟩
    ·
      subst eg3
      have z4 : ((1 : Int32).toInt ≤ x2.toInt) ∧ (x2.toInt ≤ (5 : Int32).toInt) := hg3
      refine ft_goS mi_k200 4 20 [.int 1, .int 0, .int x3] (by rfl) ?_
      refine ko_callPI mi_k200.1 (pc := 20) (ls := [(0, .ref 116), (1, .int x1), (2, .int x2), (3, .int x3)]) (st := [.int 1, .int 0, .int x3]) (h := ks i a q r) (i := (.invokestatic 119, 3, 131, 0, 9, 0, 379)) (mi_k200.2 _ _ (by rfl)) (ft_invS mi_pq131 (by rfl)) (cy := mi_c131) mi_pq131 rfl (kc131 hG.I hG.R x3 0 1) (by decide) ?_
      intro vg5 hg5
      rcases hg5 with ⟨eg5, hg5⟩ | ⟨eg5, hg5⟩
      ·
        subst eg5
        have z6 : ((0 : Int32).toInt ≤ x3.toInt) ∧ (x3.toInt ≤ (1 : Int32).toInt) := hg5
        have s7 : (x1 / 10).toInt = (x1.toInt / 10) := kd_div 10 kos10 (by decide) (os0 z2.1)
        have s8 : (x1 - x1 / 10 * 10).toInt = (x1.toInt % 10) := kd_rem 10 kos10 (by decide) (os0 z2.1)
        refine fo_goS mi_k200 fz200_23_10_41 [.int (x1 - x1 / 10 * 10), .int (x1 / 10), .int x2, .int 1, .ref 116] rfl ?_
        have nn1 := kos1
        have nn0 := kos0
        refine ko_callI mi_k200.1 (pc := 41) (ls := [(0, .ref 116), (1, .int x1), (2, .int x2), (3, .int x3)]) (st := [.int (x1 - x1 / 10 * 10), .int (x1 / 10), .int x2, .int 1, .ref 116]) (h := ks i a q r) (i := (.invokevirtual 333, 3, 199, 0, 9, 0, 451)) (mi_k200.2 _ _ (by rfl)) (ft_invS mi_pq199 (by rfl)) (cy := mi_c199) mi_pq199 rfl ((kLallUE ((x2.toInt - (1 : Int32).toInt).toNat)).1 _ _ _ _ hG.I hG.R 1 x2 (x1 / 10) (x1 - x1 / 10 * 10) (os294 z4.1 z4.2 kos1 kos5) (by have := kos0; have := kos1; have := kos5; omega) (os295 fi_7424.2 s7 z2.1 z2.2.1.1 z2.2.1.2 z2.2.2) (os296 fi_7424.2 s8 z2.2.1.2) (kCode_of (i1 := i) hE_code (hG.fi 7432 rfl) (hG.fa 120 rfl) (hG.fa 121 rfl) (hG.fa 122 rfl) (hG.fa 123 rfl))) (by have := kn0; have := kn1; have := kn5; omega) ?_
        intro vg9 ig9 ag9 qg9 rg9 kg9 hg9
        have hGg9 := kG_call hG kg9 (by decide +kernel)
        obtain ⟨hg9, og9⟩ := hg9
        refine fo_goL mi_k200 fz200_44_10_57 [(4, .int vg9), (0, .ref 116), (1, .int x1), (2, .int x2), (3, .int x3)] [.int (x1 - x1 / 10 * 10), .int (x1 / 10), .int x2, .int 0, .ref 116] rfl ?_
        have nn0 := kos0
        have nn0 := kos0
        refine ko_callI mi_k200.1 (pc := 57) (ls := [(4, .int vg9), (0, .ref 116), (1, .int x1), (2, .int x2), (3, .int x3)]) (st := [.int (x1 - x1 / 10 * 10), .int (x1 / 10), .int x2, .int 0, .ref 116]) (h := ks ig9 ag9 qg9 rg9) (i := (.invokevirtual 337, 3, 198, 0, 9, 0, 452)) (mi_k200.2 _ _ (by rfl)) (ft_invS mi_pq198 (by rfl)) (cy := mi_c198) mi_pq198 rfl ((kLallUE ((x2.toInt - (0 : Int32).toInt).toNat)).2 _ _ _ _ hGg9.I hGg9.R 0 x2 (x1 / 10) (x1 - x1 / 10 * 10) (os297 z4.1 z4.2 kos1 kos5 kos0) (by have := kos0; have := kos1; have := kos5; omega) (os295 fi_7424.2 s7 z2.1 z2.2.1.1 z2.2.1.2 z2.2.2) (os296 fi_7424.2 s8 z2.2.1.2) (os298 z4.1 kos1 kos0) (kCode_of (i1 := ig9) hE_code (hGg9.fi 7432 rfl) (hGg9.fa 120 rfl) (hGg9.fa 121 rfl) (hGg9.fa 122 rfl) (hGg9.fa 123 rfl))) (by have := kn0; have := kn1; have := kn5; omega) ?_
        intro vg10 ig10 ag10 qg10 rg10 kg10 hg10
        have hGg10 := kG_call hGg9 kg10 (by decide +kernel)
        obtain ⟨hg10, og10⟩ := hg10
        refine ft_goL mi_k200 2 63 [(5, .int vg10), (4, .int vg9), (0, .ref 116), (1, .int x1), (2, .int x2), (3, .int x3)] [.int x3] (by rfl) ?_
        refine ft_ifS mi_k200 (x3 != 0) 76 66 [] (by rfl) (fun c => ?_) (fun c => ?_)
        ·
          have c11 : x3.toInt ≠ (0 : Int32).toInt := kd_ne c; clear c
          refine ft_goS mi_k200 2 80 [.int vg9, .int vg10] (by rfl) ?_
          refine ft_ifS mi_k200 (decide (vg10 ≤ vg9)) 87 83 [] (by rfl) (fun c => ?_) (fun c => ?_)
          ·
            have c12 : vg10.toInt ≤ vg9.toInt := kd_le c; clear c
            first | refine ft_goS mi_k200 1 88 [.int 0] (by rfl) ?_
            exact ft_ret mi_k200 (by rfl) (hP 0 _ _ _ _ hGg10 ⟨trivial, (show ag10 118 = a 118 from (by first | rfl | (simp only [og10.1, og9.1, sMn, sMx]; done) | (simp only [og10.1, og9.1, sMn, sMx]; rfl)))⟩)
          ·
            have c13 : vg9.toInt < vg10.toInt := kd_leF c; clear c
            first | refine ft_goS mi_k200 2 88 [.int 1] (by rfl) ?_
            exact ft_ret mi_k200 (by rfl) (hP 1 _ _ _ _ hGg10 ⟨trivial, (show ag10 118 = a 118 from (by first | rfl | (simp only [og10.1, og9.1, sMn, sMx]; done) | (simp only [og10.1, og9.1, sMn, sMx]; rfl)))⟩)
        ·
          have c14 : x3.toInt = (0 : Int32).toInt := kd_neF c; clear c
          refine ft_goS mi_k200 2 70 [.int vg10, .int vg9] (by rfl) ?_
          have m16 : ((vg9.toInt ≤ (bif decide (vg9 < vg10) then vg10 else vg9).toInt) ∧ (vg10.toInt ≤ (bif decide (vg9 < vg10) then vg10 else vg9).toInt)) ∧ ((bif decide (vg9 < vg10) then vg10 else vg9).toInt = vg9.toInt ∨ (bif decide (vg9 < vg10) then vg10 else vg9).toInt = vg10.toInt) := kd_max
          refine ft_goS mi_k200 1 73 [.int (bif decide (vg9 < vg10) then vg10 else vg9)] (by rfl) ?_
          generalize hm15 : (bif decide (vg9 < vg10) then vg10 else vg9) = m15 at m16 ⊢
          have qm15 := hm15.symm
          first | refine ft_goS mi_k200 1 88 [.int m15] (by rfl) ?_
          exact ft_ret mi_k200 (by rfl) (hP m15 _ _ _ _ hGg10 ⟨trivial, (show ag10 118 = a 118 from (by first | rfl | (simp only [og10.1, og9.1, sMn, sMx]; done) | (simp only [og10.1, og9.1, sMn, sMx]; rfl)))⟩)
      ·
        subst eg5
        first | refine ft_goS mi_k200 2 29 [.int (-2000000000)] (by rfl) ?_
        exact ft_ret mi_k200 (by rfl) (hP (-2000000000) _ _ _ _ hG ⟨trivial, (show a 118 = a 118 from rfl)⟩)
    ·
      subst eg3
      first | refine ft_goS mi_k200 2 29 [.int (-2000000000)] (by rfl) ?_
      exact ft_ret mi_k200 (by rfl) (hP (-2000000000) _ _ _ _ hG ⟨trivial, (show a 118 = a 118 from rfl)⟩)
  ·
    subst eg1
    first | refine ft_goS mi_k200 2 29 [.int (-2000000000)] (by rfl) ?_
    exact ft_ret mi_k200 (by rfl) (hP (-2000000000) _ _ _ _ hG ⟨trivial, (show a 118 = a 118 from rfl)⟩)
noncomputable def yw196_116 : kW := ([7464, 7465, 7466, 7467], [117, 118, 128, 129, 139, 141, 143, 144, 145], [], [])
noncomputable def yw196_116_L19 : kW := ([7464, 7465, 7466, 7467], [117, 118, 128, 129, 139, 141, 143, 144, 145], [], [])
set_option maxRecDepth 100000 in
theorem ke196_116 {i : Nat → Int32} {a : Nat → List Int32} {q : Nat → List Int64} {r : Nat → Nat} (hI : kI i a q) (hr : kr r) (x1 : Int32) (x2 : Int32) (x3 : Int32) (hp0 : ((0 : Int) ≤ x1.toInt) ∧ (x1.toInt ≤ 5)) (hp1 : ((0 : Int) ≤ x2.toInt) ∧ (x2.toInt ≤ 7)) (hE_code : kCode i a) : km 15 196 [.ref 116, .int x1, .int x2, .int x3] (ks i a q r) (kVI yw196_116 i a q r (fun v i1 a1 q1 r1 => (True) ∧ (a1 118 = a 118 ∧ a1 117 = a 117))) := by
  have hG := kG_self yw196_116 hI hr
  refine km_ofI (q := (mi_h196, mi_c196)) rfl (by decide) (Nat.le_of_ble_eq_true rfl) ?_
  intro P hP
  refine ft_goL mi_k196 3 5 [(0, .ref 116), (1, .int x1), (2, .int x2), (3, .int x3)] [.int x2, .ref 117] (by rfl) ?_
  refine ko_iald3 mi_k196.1 (n := 24) (c := 24) (ax := (0, 0, 0, 0, 0)) (mi_k196.2 _ _ (by rfl)) (by rfl) (ksG117 _ _ _ _) (hG.I.2.1 117) rfl (os0 hp1.1) (os50 hp1.2) ?_
  first | refine fo_goL mi_k196 fz196_6_7_19 [(7, .int 9), (6, .int (-2)), (5, .int 0), (4, .int ((a 117).getD x2.toNatClampNeg 0)), (0, .ref 116), (1, .int x1), (2, .int x2), (3, .int x3)] [] (by rfl) ?_ | refine ft_goL mi_k196 7 19 [(7, .int 9), (6, .int (-2)), (5, .int 0), (4, .int ((a 117).getD x2.toNatClampNeg 0)), (0, .ref 116), (1, .int x1), (2, .int x2), (3, .int x3)] [] (by rfl) ?_
  have lp1 : ∀ (nz : Nat) (i1 : Nat → Int32) (a1 : Nat → List Int32) (q1 : Nat → List Int64) (r1 : Nat → Nat) (l7_1 : Int32) (l6_1 : Int32) (l5_1 : Int32), kG yw196_116_L19 i a q r i1 a1 q1 r1 → ((-1) : Int) ≤ l7_1.toInt → kExc (a1 117) (a 117) x2.toNatClampNeg → a1 118 = a 118 → ((l7_1.toInt + 1)).toNat < nz → ko 15 (mi_h196, mi_c196) P (19, [(7, .int l7_1), (6, .int l6_1), (5, .int l5_1), (4, .int ((a 117).getD x2.toNatClampNeg 0)), (0, .ref 116), (1, .int x1), (2, .int x2), (3, .int x3)], [], (0, 0), ks i1 a1 q1 r1) := by
    intro nz
    induction nz with
    | zero =>
      intro _ _ _ _ _ _ _ _ _ _ _ hm
      exact absurd hm (Nat.not_lt_zero _)
    | succ nz ih1 =>
      intro i1 a1 q1 r1 l7_1 l6_1 l5_1 hL1 p1_0 O1_0 O1_1 hm1
      refine ft_goL mi_k196 1 21 [(7, .int l7_1), (6, .int l6_1), (5, .int l5_1), (4, .int ((a 117).getD x2.toNatClampNeg 0)), (0, .ref 116), (1, .int x1), (2, .int x2), (3, .int x3)] [.int l7_1] (by rfl) ?_
      refine ft_ifS mi_k196 (decide (l7_1 < 0)) 58 24 [] (by rfl) (fun c => ?_) (fun c => ?_)
      ·
        have c2 : l7_1.toInt < (0 : Int32).toInt := kd_lt c; clear c
        have hG3 := kG_call hG hL1 (by decide +kernel)
        refine ft_goS mi_k196 4 65 [.int ((a 117).getD x2.toNatClampNeg 0), .int x2, .ref 117] (by rfl) ?_
        refine ko_iast3 mi_k196.1 (n := 24) (c := 24) (ax := (0, 0, 0, 0, 0)) (mi_k196.2 _ _ (by rfl)) (by rfl) (ksG117 _ _ _ _) (ksA117 _ _ _ _) (hG3.I.2.1 117) rfl (os0 hp1.1) (os50 hp1.2) ?_
        intro a4 ea4 fa4
        have hJ4 := kG_a3 hG3 117 rfl ea4 fa4 (kd_bd _)
        refine ft_goS mi_k196 1 67 [.int x3] (by rfl) ?_
        refine ft_ifS mi_k196 (x3 == 0) 75 70 [] (by rfl) (fun c => ?_) (fun c => ?_)
        ·
          have c5 : x3.toInt = (0 : Int32).toInt := kd_eq c; clear c
          first | refine ft_goS mi_k196 1 77 [.int l5_1] (by rfl) ?_
          exact ft_ret mi_k196 (by rfl) (hP l5_1 _ _ _ _ hJ4 ⟨trivial, ⟨(show a4 118 = a 118 from (by first | rfl | (simp only [fa4 118 (by decide), O1_1, sMn, sMx]; done) | (simp only [fa4 118 (by decide), O1_1, sMn, sMx]; rfl))), (show a4 117 = a 117 from (kExc_back O1_0 ea4 rfl (hG3.I.2.1 117) (hG.I.2.1 117)))⟩⟩)
        ·
          have c6 : x3.toInt ≠ (0 : Int32).toInt := kd_eqF c; clear c
          first | refine ft_goS mi_k196 2 77 [.int l6_1] (by rfl) ?_
          exact ft_ret mi_k196 (by rfl) (hP l6_1 _ _ _ _ hJ4 ⟨trivial, ⟨(show a4 118 = a 118 from (by first | rfl | (simp only [fa4 118 (by decide), O1_1, sMn, sMx]; done) | (simp only [fa4 118 (by decide), O1_1, sMn, sMx]; rfl))), (show a4 117 = a 117 from (kExc_back O1_0 ea4 rfl (hG3.I.2.1 117) (hG.I.2.1 117)))⟩⟩)
      ·
        have c7 : (0 : Int32).toInt ≤ l7_1.toInt := kd_ltF c; clear c
        refine ft_goS mi_k196 4 31 [.int l7_1, .int x2, .ref 117] (by rfl) ?_
        refine ko_iast3 mi_k196.1 (n := 24) (c := 24) (ax := (0, 0, 0, 0, 0)) (mi_k196.2 _ _ (by rfl)) (by rfl) (ksG117 _ _ _ _) (ksA117 _ _ _ _) (hL1.I.2.1 117) rfl (os0 hp1.1) (os50 hp1.2) ?_
        intro a8 ea8 fa8
        have hJ8 := kG_a3 hL1 117 rfl ea8 fa8 (kd_bd _)
        refine ft_goS mi_k196 2 34 [.int x1, .ref 116] (by rfl) ?_
        have hG9 := kG_call hG hJ8 (by decide +kernel)
        refine ko_callI mi_k196.1 (pc := 34) (ls := [(7, .int l7_1), (6, .int l6_1), (5, .int l5_1), (4, .int ((a 117).getD x2.toNatClampNeg 0)), (0, .ref 116), (1, .int x1), (2, .int x2), (3, .int x3)]) (st := [.int x1, .ref 116]) (h := ks i1 a8 q1 r1) (i := (.invokevirtual 320, 3, 192, 0, 9, 0, 444)) (mi_k196.2 _ _ (by rfl)) (ft_invS mi_pq192 (by rfl)) (cy := mi_c192) mi_pq192 rfl (ke192_116 hJ8.I hJ8.R x1 (os306 hp0.1 hp0.2) (kCode_of (i1 := i1) hE_code (hG9.fi 7432 rfl) (hG9.fa 120 rfl) (hG9.fa 121 rfl) (hG9.fa 122 rfl) (hG9.fa 123 rfl))) (by decide) ?_
        intro vg10 ig10 ag10 qg10 rg10 kg10 hg10
        have hGg10 := kG_call hJ8 kg10 (by decide +kernel)
        obtain ⟨hg10, og10⟩ := hg10
        have q11 : ag10 118 = a8 118 := og10
        refine ft_goS mi_k196 1 39 [.int (-2), .int vg10] (by rfl) ?_
        refine ft_ifS mi_k196 (vg10 == (-2)) 45 42 [] (by rfl) (fun c => ?_) (fun c => ?_)
        ·
          have c12 : vg10.toInt = ((-2) : Int32).toInt := kd_eq c; clear c
          have b13 : ((-2147483648 : Int) ≤ l5_1.toInt) ∧ (l5_1.toInt ≤ 2147483647) := kd_bd l5_1
          have b14 : ((-2147483648 : Int) ≤ l7_1.toInt) ∧ (l7_1.toInt ≤ 2147483647) := kd_bd l7_1
          have s15 : (l7_1 + (-1)).toInt = l7_1.toInt + ((-1) : Int32).toInt := kd_add (os310 p1_0 kosm1) (os311 b14.2 kosm1)
          first | refine fo_goL mi_k196 fz196_9_5_19 [(7, .int (l7_1 + (-1))), (6, .int l7_1), (5, .int (l5_1 + 1)), (4, .int ((a 117).getD x2.toNatClampNeg 0)), (0, .ref 116), (1, .int x1), (2, .int x2), (3, .int x3)] [] (by rfl) ?_ | refine fo_goL mi_k196 fz196_45_5_19 [(7, .int (l7_1 + (-1))), (6, .int l7_1), (5, .int (l5_1 + 1)), (4, .int ((a 117).getD x2.toNatClampNeg 0)), (0, .ref 116), (1, .int x1), (2, .int x2), (3, .int x3)] [] (by rfl) ?_ | refine ft_goL mi_k196 5 19 [(7, .int (l7_1 + (-1))), (6, .int l7_1), (5, .int (l5_1 + 1)), (4, .int ((a 117).getD x2.toNatClampNeg 0)), (0, .ref 116), (1, .int x1), (2, .int x2), (3, .int x3)] [] (by rfl) ?_
          exact ih1 _ _ _ _ _ _ _ hGg10 (os312 c7 s15 kos0 kosm1) (kExc_set O1_0 ea8 (kg10.fa 117 rfl)) (by first | rfl | (simp only [q11, fa8 118 (by decide), O1_1, sMn, sMx]; done) | (simp only [q11, fa8 118 (by decide), O1_1, sMn, sMx]; rfl)) (kj_meas (os313 s15 kosm1) (os314 c7 kos0) hm1)
        ·
          have c16 : vg10.toInt ≠ ((-2) : Int32).toInt := kd_eqF c; clear c
          have b17 : ((-2147483648 : Int) ≤ l7_1.toInt) ∧ (l7_1.toInt ≤ 2147483647) := kd_bd l7_1
          have s18 : (l7_1 + (-1)).toInt = l7_1.toInt + ((-1) : Int32).toInt := kd_add (os310 p1_0 kosm1) (os311 b17.2 kosm1)
          first | refine ft_goL mi_k196 3 19 [(7, .int (l7_1 + (-1))), (6, .int l6_1), (5, .int l5_1), (4, .int ((a 117).getD x2.toNatClampNeg 0)), (0, .ref 116), (1, .int x1), (2, .int x2), (3, .int x3)] [] (by rfl) ?_
          exact ih1 _ _ _ _ _ _ _ hGg10 (os312 c7 s18 kos0 kosm1) (kExc_set O1_0 ea8 (kg10.fa 117 rfl)) (by first | rfl | (simp only [q11, fa8 118 (by decide), O1_1, sMn, sMx]; done) | (simp only [q11, fa8 118 (by decide), O1_1, sMn, sMx]; rfl)) (kj_meas (os313 s18 kosm1) (os314 c7 kos0) hm1)
  exact lp1 _ _ _ _ _ _ _ _ (kG_self _ hG.I hG.R) (os315 kos9) (kExc_eq rfl) rfl (Nat.lt_succ_self _)
noncomputable def yw197_116 : kW := ([7426, 7464, 7465, 7466, 7467, 7469], [117, 118, 128, 129, 139, 141, 142, 143, 144, 145], [], [])
set_option maxRecDepth 100000 in
theorem ke197_116 {i : Nat → Int32} {a : Nat → List Int32} {q : Nat → List Int64} {r : Nat → Nat} (hI : kI i a q) (hr : kr r) (x1 : Int32) (x2 : Int32) (x3 : Int32) (hE_code : kCode i a) : km 17 197 [.ref 116, .int x1, .int x2, .int x3] (ks i a q r) (kVI yw197_116 i a q r (fun v i1 a1 q1 r1 => ((i1 7426).toInt = (i 7426).toInt) ∧ (a1 118 = a 118 ∧ a1 117 = a 117))) := by
  have hG := kG_self yw197_116 hI hr
  refine km_ofI (q := (mi_h197, mi_c197)) rfl (by decide) (Nat.le_of_ble_eq_true rfl) ?_
  intro P hP
  refine ft_goL mi_k197 2 2 [(0, .ref 116), (1, .int x1), (2, .int x2), (3, .int x3)] [.int x1, .ref 116] (by rfl) ?_
  refine ko_callPI mi_k197.1 (pc := 2) (ls := [(0, .ref 116), (1, .int x1), (2, .int x2), (3, .int x3)]) (st := [.int x1, .ref 116]) (h := ks i a q r) (i := (.invokevirtual 314, 3, 190, 0, 9, 0, 442)) (mi_k197.2 _ _ (by rfl)) (ft_invS mi_pq190 (by rfl)) (cy := mi_c190) mi_pq190 rfl (kc190_116 hG.I hG.R x1) (by decide) ?_
  intro vg1 hg1
  rcases hg1 with ⟨eg1, hg1⟩ | ⟨eg1, hg1⟩
  ·
    subst eg1
    have z2 : ((0 : Int) ≤ x1.toInt) ∧ (((0 : Int) ≤ (x1.toInt / 10)) ∧ ((x1.toInt / 10) ≤ 5)) ∧ ((x1.toInt % 10) ≤ 5) := hg1
    refine ft_goS mi_k197 4 11 [.int 3, .int 0, .int x3] (by rfl) ?_
    refine ko_callPI mi_k197.1 (pc := 11) (ls := [(0, .ref 116), (1, .int x1), (2, .int x2), (3, .int x3)]) (st := [.int 3, .int 0, .int x3]) (h := ks i a q r) (i := (.invokestatic 119, 3, 131, 0, 9, 0, 379)) (mi_k197.2 _ _ (by rfl)) (ft_invS mi_pq131 (by rfl)) (cy := mi_c131) mi_pq131 rfl (kc131 hG.I hG.R x3 0 3) (by decide) ?_
    intro vg3 hg3
    rcases hg3 with ⟨eg3, hg3⟩ | ⟨eg3, hg3⟩
    ·
      subst eg3
      have z4 : ((0 : Int32).toInt ≤ x3.toInt) ∧ (x3.toInt ≤ (3 : Int32).toInt) := hg3
      refine ft_goS mi_k197 2 18 [.int x2] (by rfl) ?_
      refine ft_ifS mi_k197 (decide (x2 < 0)) 42 21 [] (by rfl) (fun c => ?_) (fun c => ?_)
      ·
        have c5 : x2.toInt < (0 : Int32).toInt := kd_lt c; clear c
        refine ft_goS mi_k197 1 43 [.int (-1)] (by rfl) ?_
        exact ft_ret mi_k197 (by rfl) (hP (-1) _ _ _ _ hG ⟨os31, ⟨(show a 118 = a 118 from rfl), (show a 117 = a 117 from rfl)⟩⟩)
      ·
        have c6 : (0 : Int32).toInt ≤ x2.toInt := kd_ltF c; clear c
        refine ft_goS mi_k197 1 22 [.int x3] (by rfl) ?_
        refine ft_ifS mi_k197 (x3 != 0) 29 25 [] (by rfl) (fun c => ?_) (fun c => ?_)
        ·
          have c7 : x3.toInt ≠ (0 : Int32).toInt := kd_ne c; clear c
          refine ft_goS mi_k197 2 31 [.int 1, .int x3] (by rfl) ?_
          refine ft_ifS mi_k197 (decide (x3 ≤ 1)) 44 34 [] (by rfl) (fun c => ?_) (fun c => ?_)
          ·
            have c8 : x3.toInt ≤ (1 : Int32).toInt := kd_le c; clear c
            refine ft_goS mi_k197 2 46 [.int x1, .ref 116] (by rfl) ?_
            refine ko_callPI mi_k197.1 (pc := 46) (ls := [(0, .ref 116), (1, .int x1), (2, .int x2), (3, .int x3)]) (st := [.int x1, .ref 116]) (h := ks i a q r) (i := (.invokevirtual 317, 3, 191, 0, 9, 0, 443)) (mi_k197.2 _ _ (by rfl)) (ft_invS mi_pq191 (by rfl)) (cy := mi_c191) mi_pq191 rfl (kc191_116 hG.I hG.R x1 (os329 z2.2.1.1 z2.2.1.2) (os0 z2.1) (os330 z2.2.2)) (by decide) ?_
            intro vg9 hg9
            refine fo_goL mi_k197 fz197_49_2_53 [(4, .int vg9), (0, .ref 116), (1, .int x1), (2, .int x2), (3, .int x3)] [.int vg9] rfl ?_
            refine ft_ifS mi_k197 (decide (0 ≤ vg9)) 59 56 [] (by rfl) (fun c => ?_) (fun c => ?_)
            ·
              have c11 : (0 : Int32).toInt ≤ vg9.toInt := kd_le c; clear c
              have s12 : (x1 / 10).toInt = (x1.toInt / 10) := kd_div 10 kos10 (by decide) (os0 z2.1)
              refine fo_goS mi_k197 fz197_59_4_64 [.int (x1 / 10), .ref 116] rfl ?_
              refine ko_callN mi_k197.1 (pc := 64) (ls := [(4, .int vg9), (0, .ref 116), (1, .int x1), (2, .int x2), (3, .int x3)]) (st := [.int (x1 / 10), .ref 116]) (h := ks i a q r) (i := (.invokevirtual 279, 3, 174, 0, 9, 0, 411)) (mi_k197.2 _ _ (by rfl)) (ft_invS mi_pq174 (by rfl)) (cy := mi_c174) mi_pq174 rfl (kc174_116 hG.I hG.R (x1 / 10) (os349 s12 z2.1 z2.2.1.2 z2.2.2)) (by decide) ?_
              intro ig13 ag13 qg13 rg13 kg13 hg13
              have hGg13 := kG_call hG kg13 (by decide +kernel)
              have fig13_7469 : ((0 : Int) ≤ (ig13 7469).toInt) ∧ ((ig13 7469).toInt ≤ 21) := hGg13.I.1 7469
              refine fo_goS mi_k197 fz197_67_2_69 [.int 1, .int x3] rfl ?_
              refine ft_ifS mi_k197 (x3 != 1) 82 72 [] (by rfl) (fun c => ?_) (fun c => ?_)
              ·
                have c15 : x3.toInt ≠ (1 : Int32).toInt := kd_ne c; clear c
                exact (os350 c15 c7 c8 z4.1 kos1 kos0).elim
              ·
                have c16 : x3.toInt = (1 : Int32).toInt := kd_neF c; clear c
                refine ft_goS mi_k197 3 77 [.int (ig13 7469), .int x2] (by rfl) ?_
                refine ft_ifS mi_k197 (decide (x2 < (ig13 7469))) 82 80 [] (by rfl) (fun c => ?_) (fun c => ?_)
                ·
                  have c17 : x2.toInt < (ig13 7469).toInt := kd_lt c; clear c
                  refine ft_goS mi_k197 1 83 [.int x3] (by rfl) ?_
                  refine ft_ifS mi_k197 (x3 != 0) 97 86 [] (by rfl) (fun c => ?_) (fun c => ?_)
                  ·
                    have c18 : x3.toInt ≠ (0 : Int32).toInt := kd_ne c; clear c
                    refine ft_goS mi_k197 2 99 [.int 1, .int x3] (by rfl) ?_
                    refine ft_ifS mi_k197 (x3 != 1) 114 102 [] (by rfl) (fun c => ?_) (fun c => ?_)
                    ·
                      have c19 : x3.toInt ≠ (1 : Int32).toInt := kd_ne c; clear c
                      exact (os351 c16 c19 c8 kos1).elim
                    ·
                      have c20 : x3.toInt = (1 : Int32).toInt := kd_neF c; clear c
                      have s21 : (x1 - x1 / 10 * 10).toInt = (x1.toInt % 10) := kd_rem 10 kos10 (by decide) (os0 z2.1)
                      refine fo_goS mi_k197 fz197_102_5_108 [.int x2, .int (x1 - x1 / 10 * 10), .ref 116] rfl ?_
                      refine ko_callI mi_k197.1 (pc := 108) (ls := [(4, .int vg9), (0, .ref 116), (1, .int x1), (2, .int x2), (3, .int x3)]) (st := [.int x2, .int (x1 - x1 / 10 * 10), .ref 116]) (h := ks ig13 ag13 qg13 rg13) (i := (.invokevirtual 326, 3, 195, 0, 9, 0, 447)) (mi_k197.2 _ _ (by rfl)) (ft_invS mi_pq195 (by rfl)) (cy := mi_c195) mi_pq195 rfl (ke195_116 hGg13.I hGg13.R (x1 - x1 / 10 * 10) x2 (os352 s21 z2.2.2) (os353 c17 c6 fig13_7469.2 kos0) (kCode_of (i1 := ig13) hE_code (hGg13.fi 7432 rfl) (hGg13.fa 120 rfl) (hGg13.fa 121 rfl) (hGg13.fa 122 rfl) (hGg13.fa 123 rfl))) (by decide) ?_
                      intro vg22 ig22 ag22 qg22 rg22 kg22 hg22
                      have hGg22 := kG_call hGg13 kg22 (by decide +kernel)
                      obtain ⟨hg22, og22⟩ := hg22
                      have q23 : ag22 118 = ag13 118 := og22
                      first | refine ft_goS mi_k197 1 133 [.int vg22] (by rfl) ?_
                      have efig13_7426 : (ig13 7426).toInt = (i 7426).toInt := kg13.ti 7426 rfl
                      have efig22_7426 : (ig22 7426).toInt = (ig13 7426).toInt := kg22.ti 7426 rfl
                      exact ft_ret mi_k197 (by rfl) (hP vg22 _ _ _ _ hGg22 ⟨(os354 efig13_7426 efig22_7426), ⟨(show ag22 118 = a 118 from (by first | rfl | (simp only [q23, kg13.fa 118 rfl, sMn, sMx]; done) | (simp only [q23, kg13.fa 118 rfl, sMn, sMx]; rfl))), (show ag22 117 = a 117 from (by first | rfl | (simp only [kg22.fa 117 rfl, kg13.fa 117 rfl, sMn, sMx]; done) | (simp only [kg22.fa 117 rfl, kg13.fa 117 rfl, sMn, sMx]; rfl)))⟩⟩)
                  ·
                    have c24 : x3.toInt = (0 : Int32).toInt := kd_neF c; clear c
                    exact (os355 c16 c24 kos1 kos0).elim
                ·
                  have c25 : (ig13 7469).toInt ≤ x2.toInt := kd_ltF c; clear c
                  refine ft_goS mi_k197 1 81 [.int (-1)] (by rfl) ?_
                  have efig13_7426 : (ig13 7426).toInt = (i 7426).toInt := kg13.ti 7426 rfl
                  exact ft_ret mi_k197 (by rfl) (hP (-1) _ _ _ _ hGg13 ⟨(os237 efig13_7426), ⟨(show ag13 118 = a 118 from (by first | rfl | (simp only [kg13.fa 118 rfl, sMn, sMx]; done) | (simp only [kg13.fa 118 rfl, sMn, sMx]; rfl))), (show ag13 117 = a 117 from (by first | rfl | (simp only [kg13.fa 117 rfl, sMn, sMx]; done) | (simp only [kg13.fa 117 rfl, sMn, sMx]; rfl)))⟩⟩)
            ·
              have c26 : vg9.toInt < (0 : Int32).toInt := kd_leF c; clear c
              refine ft_goS mi_k197 1 58 [.int vg9] (by rfl) ?_
              exact ft_ret mi_k197 (by rfl) (hP vg9 _ _ _ _ hG ⟨os31, ⟨(show a 118 = a 118 from rfl), (show a 117 = a 117 from rfl)⟩⟩)
          ·
            have c27 : (1 : Int32).toInt < x3.toInt := kd_leF c; clear c
            refine ft_goS mi_k197 2 36 [.int x2, .ref 116] (by rfl) ?_
            refine ko_callPI mi_k197.1 (pc := 36) (ls := [(0, .ref 116), (1, .int x1), (2, .int x2), (3, .int x3)]) (st := [.int x2, .ref 116]) (h := ks i a q r) (i := (.invokevirtual 137, 3, 132, 0, 9, 0, 387)) (mi_k197.2 _ _ (by rfl)) (ft_invS mi_pq132 (by rfl)) (cy := mi_c132) mi_pq132 rfl (kc132_116 hG.I hG.R x2) (by decide) ?_
            intro vg28 hg28
            rcases hg28 with ⟨eg28, hg28⟩ | ⟨eg28, hg28⟩
            ·
              subst eg28
              have fi_7424 : ((0 : Int) ≤ (i 7424).toInt) ∧ ((i 7424).toInt ≤ 8) := hG.I.1 7424
              have z29 : ((0 : Int) ≤ x2.toInt) ∧ (x2.toInt < (i 7424).toInt) := hg28
              first | refine ft_goS mi_k197 3 46 [.int x1, .ref 116] (by rfl) ?_
              refine ko_callPI mi_k197.1 (pc := 46) (ls := [(0, .ref 116), (1, .int x1), (2, .int x2), (3, .int x3)]) (st := [.int x1, .ref 116]) (h := ks i a q r) (i := (.invokevirtual 317, 3, 191, 0, 9, 0, 443)) (mi_k197.2 _ _ (by rfl)) (ft_invS mi_pq191 (by rfl)) (cy := mi_c191) mi_pq191 rfl (kc191_116 hG.I hG.R x1 (os329 z2.2.1.1 z2.2.1.2) (os0 z2.1) (os330 z2.2.2)) (by decide) ?_
              intro vg30 hg30
              refine fo_goL mi_k197 fz197_49_2_53 [(4, .int vg30), (0, .ref 116), (1, .int x1), (2, .int x2), (3, .int x3)] [.int vg30] rfl ?_
              refine ft_ifS mi_k197 (decide (0 ≤ vg30)) 59 56 [] (by rfl) (fun c => ?_) (fun c => ?_)
              ·
                have c32 : (0 : Int32).toInt ≤ vg30.toInt := kd_le c; clear c
                have s33 : (x1 / 10).toInt = (x1.toInt / 10) := kd_div 10 kos10 (by decide) (os0 z2.1)
                refine fo_goS mi_k197 fz197_59_4_64 [.int (x1 / 10), .ref 116] rfl ?_
                refine ko_callN mi_k197.1 (pc := 64) (ls := [(4, .int vg30), (0, .ref 116), (1, .int x1), (2, .int x2), (3, .int x3)]) (st := [.int (x1 / 10), .ref 116]) (h := ks i a q r) (i := (.invokevirtual 279, 3, 174, 0, 9, 0, 411)) (mi_k197.2 _ _ (by rfl)) (ft_invS mi_pq174 (by rfl)) (cy := mi_c174) mi_pq174 rfl (kc174_116 hG.I hG.R (x1 / 10) (os349 s33 z2.1 z2.2.1.2 z2.2.2)) (by decide) ?_
                intro ig34 ag34 qg34 rg34 kg34 hg34
                have hGg34 := kG_call hG kg34 (by decide +kernel)
                refine fo_goS mi_k197 fz197_67_2_69 [.int 1, .int x3] rfl ?_
                refine ft_ifS mi_k197 (x3 != 1) 82 72 [] (by rfl) (fun c => ?_) (fun c => ?_)
                ·
                  have c36 : x3.toInt ≠ (1 : Int32).toInt := kd_ne c; clear c
                  refine ft_goS mi_k197 1 83 [.int x3] (by rfl) ?_
                  refine ft_ifS mi_k197 (x3 != 0) 97 86 [] (by rfl) (fun c => ?_) (fun c => ?_)
                  ·
                    have c37 : x3.toInt ≠ (0 : Int32).toInt := kd_ne c; clear c
                    refine ft_goS mi_k197 2 99 [.int 1, .int x3] (by rfl) ?_
                    refine ft_ifS mi_k197 (x3 != 1) 114 102 [] (by rfl) (fun c => ?_) (fun c => ?_)
                    ·
                      have c38 : x3.toInt ≠ (1 : Int32).toInt := kd_ne c; clear c
                      have s39 : (x1 - x1 / 10 * 10).toInt = (x1.toInt % 10) := kd_rem 10 kos10 (by decide) (os0 z2.1)
                      refine fo_goS mi_k197 fz197_114_7_122 [.int 3, .int x3, .int x2, .int (x1 - x1 / 10 * 10), .ref 116] rfl ?_
                      refine ft_ifS mi_k197 (x3 != 3) 129 125 [.int x2, .int (x1 - x1 / 10 * 10), .ref 116] (by rfl) (fun c => ?_) (fun c => ?_)
                      ·
                        have c40 : x3.toInt ≠ (3 : Int32).toInt := kd_ne c; clear c
                        first | refine ft_goS mi_k197 1 130 [.int 0, .int x2, .int (x1 - x1 / 10 * 10), .ref 116] (by rfl) ?_
                        refine ko_callI mi_k197.1 (pc := 130) (ls := [(4, .int vg30), (0, .ref 116), (1, .int x1), (2, .int x2), (3, .int x3)]) (st := [.int 0, .int x2, .int (x1 - x1 / 10 * 10), .ref 116]) (h := ks ig34 ag34 qg34 rg34) (i := (.invokevirtual 329, 3, 196, 0, 9, 0, 448)) (mi_k197.2 _ _ (by rfl)) (ft_invS mi_pq196 (by rfl)) (cy := mi_c196) mi_pq196 rfl (ke196_116 hGg34.I hGg34.R (x1 - x1 / 10 * 10) x2 0 (os352 s39 z2.2.2) (os356 c6 fi_7424.2 z29.2 kos0) (kCode_of (i1 := ig34) hE_code (hGg34.fi 7432 rfl) (hGg34.fa 120 rfl) (hGg34.fa 121 rfl) (hGg34.fa 122 rfl) (hGg34.fa 123 rfl))) (by decide) ?_
                        intro vg41 ig41 ag41 qg41 rg41 kg41 hg41
                        have hGg41 := kG_call hGg34 kg41 (by decide +kernel)
                        obtain ⟨hg41, og41⟩ := hg41
                        have q42 : ag41 118 = ag34 118 := og41.1
                        have q43 : ag41 117 = ag34 117 := og41.2
                        have efig34_7426 : (ig34 7426).toInt = (i 7426).toInt := kg34.ti 7426 rfl
                        have efig41_7426 : (ig41 7426).toInt = (ig34 7426).toInt := kg41.ti 7426 rfl
                        exact ft_ret mi_k197 (by rfl) (hP vg41 _ _ _ _ hGg41 ⟨(os354 efig34_7426 efig41_7426), ⟨(show ag41 118 = a 118 from (by first | rfl | (simp only [q42, kg34.fa 118 rfl, sMn, sMx]; done) | (simp only [q42, kg34.fa 118 rfl, sMn, sMx]; rfl))), (show ag41 117 = a 117 from (by first | rfl | (simp only [q43, kg34.fa 117 rfl, sMn, sMx]; done) | (simp only [q43, kg34.fa 117 rfl, sMn, sMx]; rfl)))⟩⟩)
                      ·
                        have c44 : x3.toInt = (3 : Int32).toInt := kd_neF c; clear c
                        first | refine ft_goS mi_k197 2 130 [.int 1, .int x2, .int (x1 - x1 / 10 * 10), .ref 116] (by rfl) ?_
                        refine ko_callI mi_k197.1 (pc := 130) (ls := [(4, .int vg30), (0, .ref 116), (1, .int x1), (2, .int x2), (3, .int x3)]) (st := [.int 1, .int x2, .int (x1 - x1 / 10 * 10), .ref 116]) (h := ks ig34 ag34 qg34 rg34) (i := (.invokevirtual 329, 3, 196, 0, 9, 0, 448)) (mi_k197.2 _ _ (by rfl)) (ft_invS mi_pq196 (by rfl)) (cy := mi_c196) mi_pq196 rfl (ke196_116 hGg34.I hGg34.R (x1 - x1 / 10 * 10) x2 1 (os352 s39 z2.2.2) (os356 c6 fi_7424.2 z29.2 kos0) (kCode_of (i1 := ig34) hE_code (hGg34.fi 7432 rfl) (hGg34.fa 120 rfl) (hGg34.fa 121 rfl) (hGg34.fa 122 rfl) (hGg34.fa 123 rfl))) (by decide) ?_
                        intro vg45 ig45 ag45 qg45 rg45 kg45 hg45
                        have hGg45 := kG_call hGg34 kg45 (by decide +kernel)
                        obtain ⟨hg45, og45⟩ := hg45
                        have q46 : ag45 118 = ag34 118 := og45.1
                        have q47 : ag45 117 = ag34 117 := og45.2
                        have efig34_7426 : (ig34 7426).toInt = (i 7426).toInt := kg34.ti 7426 rfl
                        have efig45_7426 : (ig45 7426).toInt = (ig34 7426).toInt := kg45.ti 7426 rfl
                        exact ft_ret mi_k197 (by rfl) (hP vg45 _ _ _ _ hGg45 ⟨(os354 efig34_7426 efig45_7426), ⟨(show ag45 118 = a 118 from (by first | rfl | (simp only [q46, kg34.fa 118 rfl, sMn, sMx]; done) | (simp only [q46, kg34.fa 118 rfl, sMn, sMx]; rfl))), (show ag45 117 = a 117 from (by first | rfl | (simp only [q47, kg34.fa 117 rfl, sMn, sMx]; done) | (simp only [q47, kg34.fa 117 rfl, sMn, sMx]; rfl)))⟩⟩)
                    ·
                      have c48 : x3.toInt = (1 : Int32).toInt := kd_neF c; clear c
                      exact (os357 c27 c48 kos1).elim
                  ·
                    have c49 : x3.toInt = (0 : Int32).toInt := kd_neF c; clear c
                    exact (os358 c27 c49 kos1 kos0).elim
                ·
                  have c50 : x3.toInt = (1 : Int32).toInt := kd_neF c; clear c
                  exact (os357 c27 c50 kos1).elim
              ·
                have c51 : vg30.toInt < (0 : Int32).toInt := kd_leF c; clear c
                refine ft_goS mi_k197 1 58 [.int vg30] (by rfl) ?_
                exact ft_ret mi_k197 (by rfl) (hP vg30 _ _ _ _ hG ⟨os31, ⟨(show a 118 = a 118 from rfl), (show a 117 = a 117 from rfl)⟩⟩)
            ·
              subst eg28
              first | refine fo_goS mi_k197 fz197_5_2_43 [.int (-1)] (by rfl) ?_ | refine fo_goS mi_k197 fz197_14_2_43 [.int (-1)] (by rfl) ?_ | refine fo_goS mi_k197 fz197_18_2_43 [.int (-1)] (by rfl) ?_ | refine fo_goS mi_k197 fz197_26_2_43 [.int (-1)] (by rfl) ?_ | refine fo_goS mi_k197 fz197_39_2_43 [.int (-1)] (by rfl) ?_
              exact ft_ret mi_k197 (by rfl) (hP (-1) _ _ _ _ hG ⟨os31, ⟨(show a 118 = a 118 from rfl), (show a 117 = a 117 from rfl)⟩⟩)
        ·
          have c53 : x3.toInt = (0 : Int32).toInt := kd_neF c; clear c
          refine ft_goS mi_k197 1 26 [.int x2] (by rfl) ?_
          refine ft_ifS mi_k197 (x2 != 0) 42 29 [] (by rfl) (fun c => ?_) (fun c => ?_)
          ·
            have c54 : x2.toInt ≠ (0 : Int32).toInt := kd_ne c; clear c
            refine ft_goS mi_k197 1 43 [.int (-1)] (by rfl) ?_
            exact ft_ret mi_k197 (by rfl) (hP (-1) _ _ _ _ hG ⟨os31, ⟨(show a 118 = a 118 from rfl), (show a 117 = a 117 from rfl)⟩⟩)
          ·
            have c55 : x2.toInt = (0 : Int32).toInt := kd_neF c; clear c
            refine ft_goS mi_k197 2 31 [.int 1, .int x3] (by rfl) ?_
            refine ft_ifS mi_k197 (decide (x3 ≤ 1)) 44 34 [] (by rfl) (fun c => ?_) (fun c => ?_)
            ·
              have c56 : x3.toInt ≤ (1 : Int32).toInt := kd_le c; clear c
              refine ft_goS mi_k197 2 46 [.int x1, .ref 116] (by rfl) ?_
              refine ko_callPI mi_k197.1 (pc := 46) (ls := [(0, .ref 116), (1, .int x1), (2, .int x2), (3, .int x3)]) (st := [.int x1, .ref 116]) (h := ks i a q r) (i := (.invokevirtual 317, 3, 191, 0, 9, 0, 443)) (mi_k197.2 _ _ (by rfl)) (ft_invS mi_pq191 (by rfl)) (cy := mi_c191) mi_pq191 rfl (kc191_116 hG.I hG.R x1 (os329 z2.2.1.1 z2.2.1.2) (os0 z2.1) (os330 z2.2.2)) (by decide) ?_
              intro vg57 hg57
              refine fo_goL mi_k197 fz197_49_2_53 [(4, .int vg57), (0, .ref 116), (1, .int x1), (2, .int x2), (3, .int x3)] [.int vg57] rfl ?_
              refine ft_ifS mi_k197 (decide (0 ≤ vg57)) 59 56 [] (by rfl) (fun c => ?_) (fun c => ?_)
              ·
                have c59 : (0 : Int32).toInt ≤ vg57.toInt := kd_le c; clear c
                have s60 : (x1 / 10).toInt = (x1.toInt / 10) := kd_div 10 kos10 (by decide) (os0 z2.1)
                refine fo_goS mi_k197 fz197_59_4_64 [.int (x1 / 10), .ref 116] rfl ?_
                refine ko_callN mi_k197.1 (pc := 64) (ls := [(4, .int vg57), (0, .ref 116), (1, .int x1), (2, .int x2), (3, .int x3)]) (st := [.int (x1 / 10), .ref 116]) (h := ks i a q r) (i := (.invokevirtual 279, 3, 174, 0, 9, 0, 411)) (mi_k197.2 _ _ (by rfl)) (ft_invS mi_pq174 (by rfl)) (cy := mi_c174) mi_pq174 rfl (kc174_116 hG.I hG.R (x1 / 10) (os349 s60 z2.1 z2.2.1.2 z2.2.2)) (by decide) ?_
                intro ig61 ag61 qg61 rg61 kg61 hg61
                have hGg61 := kG_call hG kg61 (by decide +kernel)
                refine fo_goS mi_k197 fz197_67_2_69 [.int 1, .int x3] rfl ?_
                refine ft_ifS mi_k197 (x3 != 1) 82 72 [] (by rfl) (fun c => ?_) (fun c => ?_)
                ·
                  have c63 : x3.toInt ≠ (1 : Int32).toInt := kd_ne c; clear c
                  refine ft_goS mi_k197 1 83 [.int x3] (by rfl) ?_
                  refine ft_ifS mi_k197 (x3 != 0) 97 86 [] (by rfl) (fun c => ?_) (fun c => ?_)
                  ·
                    have c64 : x3.toInt ≠ (0 : Int32).toInt := kd_ne c; clear c
                    exact (os359 c53 c64 z4.1 kos0).elim
                  ·
                    have c65 : x3.toInt = (0 : Int32).toInt := kd_neF c; clear c
                    have s66 : (x1 - x1 / 10 * 10).toInt = (x1.toInt % 10) := kd_rem 10 kos10 (by decide) (os0 z2.1)
                    refine ft_goS mi_k197 4 91 [.int (x1 - x1 / 10 * 10), .ref 116] (by rfl) ?_
                    refine ko_callI mi_k197.1 (pc := 91) (ls := [(4, .int vg57), (0, .ref 116), (1, .int x1), (2, .int x2), (3, .int x3)]) (st := [.int (x1 - x1 / 10 * 10), .ref 116]) (h := ks ig61 ag61 qg61 rg61) (i := (.invokevirtual 323, 3, 194, 0, 9, 0, 446)) (mi_k197.2 _ _ (by rfl)) (ft_invS mi_pq194 (by rfl)) (cy := mi_c194) mi_pq194 rfl (ke194_116 hGg61.I hGg61.R (x1 - x1 / 10 * 10) (os352 s66 z2.2.2) (kCode_of (i1 := ig61) hE_code (hGg61.fi 7432 rfl) (hGg61.fa 120 rfl) (hGg61.fa 121 rfl) (hGg61.fa 122 rfl) (hGg61.fa 123 rfl))) (by decide) ?_
                    intro vg67 ig67 ag67 qg67 rg67 kg67 hg67
                    have hGg67 := kG_call hGg61 kg67 (by decide +kernel)
                    obtain ⟨hg67, og67⟩ := hg67
                    have efig61_7426 : (ig61 7426).toInt = (i 7426).toInt := kg61.ti 7426 rfl
                    have z68 : (ig67 7426).toInt = (ig61 7426).toInt := hg67
                    have q69 : ag67 118 = ag61 118 := og67
                    first | refine ft_goS mi_k197 1 133 [.int vg67] (by rfl) ?_
                    exact ft_ret mi_k197 (by rfl) (hP vg67 _ _ _ _ hGg67 ⟨(os354 efig61_7426 z68), ⟨(show ag67 118 = a 118 from (by first | rfl | (simp only [q69, kg61.fa 118 rfl, sMn, sMx]; done) | (simp only [q69, kg61.fa 118 rfl, sMn, sMx]; rfl))), (show ag67 117 = a 117 from (by first | rfl | (simp only [kg67.fa 117 rfl, kg61.fa 117 rfl, sMn, sMx]; done) | (simp only [kg67.fa 117 rfl, kg61.fa 117 rfl, sMn, sMx]; rfl)))⟩⟩)
                ·
                  have c70 : x3.toInt = (1 : Int32).toInt := kd_neF c; clear c
                  exact (os370 c53 c70 kos0 kos1).elim
              ·
                have c71 : vg57.toInt < (0 : Int32).toInt := kd_leF c; clear c
                refine ft_goS mi_k197 1 58 [.int vg57] (by rfl) ?_
                exact ft_ret mi_k197 (by rfl) (hP vg57 _ _ _ _ hG ⟨os31, ⟨(show a 118 = a 118 from rfl), (show a 117 = a 117 from rfl)⟩⟩)
            ·
              have c72 : (1 : Int32).toInt < x3.toInt := kd_leF c; clear c
              exact (os371 c53 c72 kos0 kos1).elim
    ·
      subst eg3
      first | refine fo_goS mi_k197 fz197_5_2_43 [.int (-1)] (by rfl) ?_ | refine fo_goS mi_k197 fz197_14_2_43 [.int (-1)] (by rfl) ?_ | refine fo_goS mi_k197 fz197_18_2_43 [.int (-1)] (by rfl) ?_ | refine fo_goS mi_k197 fz197_26_2_43 [.int (-1)] (by rfl) ?_ | refine fo_goS mi_k197 fz197_39_2_43 [.int (-1)] (by rfl) ?_
      exact ft_ret mi_k197 (by rfl) (hP (-1) _ _ _ _ hG ⟨os31, ⟨(show a 118 = a 118 from rfl), (show a 117 = a 117 from rfl)⟩⟩)
  ·
    subst eg1
    first | refine fo_goS mi_k197 fz197_5_2_43 [.int (-1)] (by rfl) ?_ | refine fo_goS mi_k197 fz197_14_2_43 [.int (-1)] (by rfl) ?_ | refine fo_goS mi_k197 fz197_18_2_43 [.int (-1)] (by rfl) ?_ | refine fo_goS mi_k197 fz197_26_2_43 [.int (-1)] (by rfl) ?_ | refine fo_goS mi_k197 fz197_39_2_43 [.int (-1)] (by rfl) ?_
    exact ft_ret mi_k197 (by rfl) (hP (-1) _ _ _ _ hG ⟨os31, ⟨(show a 118 = a 118 from rfl), (show a 117 = a 117 from rfl)⟩⟩)
end
section
/-! what the contracts say, by names -/
noncomputable def pt_ke80_0 (x1 : Int32) (x2 : Int32) (v : Int32) (i : Nat → Int32) (a : Nat → List Int32) (q : Nat → List Int64) (r : Nat → Nat) (i1 : Nat → Int32) (a1 : Nat → List Int32) (q1 : Nat → List Int64) (r1 : Nat → Nat) : Prop := (((v.toInt = (-1)) ∧ (¬ (((0 : Int) ≤ x1.toInt) ∧ (x1.toInt ≤ 9) ∧ ((0 : Int) ≤ x2.toInt) ∧ (x2.toInt ≤ 9))) ∧ ((i1 64).toInt = (i 64).toInt)) ∨ (((0 : Int) ≤ x1.toInt) ∧ (x1.toInt ≤ 9) ∧ ((0 : Int) ≤ x2.toInt) ∧ (x2.toInt ≤ 9) ∧ (((v.toInt = (-3)) ∧ ((8 : Int) ≤ (i 64).toInt) ∧ ((i1 64).toInt = (i 64).toInt)) ∨ (((i 64).toInt < 8) ∧ (v.toInt = (i 64).toInt) ∧ ((i1 64).toInt = ((i 64).toInt + 1)))))) ∧ ((((0 : Int) ≤ x1.toInt) ∧ (x1.toInt ≤ 9) ∧ ((0 : Int) ≤ x2.toInt) ∧ (x2.toInt ≤ 9) ∧ ((i 64).toInt < 8) → a1 2 = (a 2).set (i 64).toNatClampNeg 100) ∧ (((0 : Int) ≤ x1.toInt) ∧ (x1.toInt ≤ 9) ∧ ((0 : Int) ≤ x2.toInt) ∧ (x2.toInt ≤ 9) ∧ ((i 64).toInt < 8) → a1 3 = (a 3).set (i 64).toNatClampNeg x1) ∧ (((0 : Int) ≤ x1.toInt) ∧ (x1.toInt ≤ 9) ∧ ((0 : Int) ≤ x2.toInt) ∧ (x2.toInt ≤ 9) ∧ ((i 64).toInt < 8) → a1 4 = (a 4).set (i 64).toNatClampNeg x2) ∧ (((0 : Int) ≤ x1.toInt) ∧ (x1.toInt ≤ 9) ∧ ((0 : Int) ≤ x2.toInt) ∧ (x2.toInt ≤ 9) ∧ ((i 64).toInt < 8) → a1 5 = (a 5).set (i 64).toNatClampNeg 0) ∧ (((0 : Int) ≤ x1.toInt) ∧ (x1.toInt ≤ 9) ∧ ((0 : Int) ≤ x2.toInt) ∧ (x2.toInt ≤ 9) ∧ ((i 64).toInt < 8) → a1 6 = (a 6).set (i 64).toNatClampNeg 0) ∧ (¬ (((0 : Int) ≤ x1.toInt) ∧ (x1.toInt ≤ 9) ∧ ((0 : Int) ≤ x2.toInt) ∧ (x2.toInt ≤ 9) ∧ ((i 64).toInt < 8)) → a1 2 = a 2) ∧ (¬ (((0 : Int) ≤ x1.toInt) ∧ (x1.toInt ≤ 9) ∧ ((0 : Int) ≤ x2.toInt) ∧ (x2.toInt ≤ 9) ∧ ((i 64).toInt < 8)) → a1 3 = a 3) ∧ (¬ (((0 : Int) ≤ x1.toInt) ∧ (x1.toInt ≤ 9) ∧ ((0 : Int) ≤ x2.toInt) ∧ (x2.toInt ≤ 9) ∧ ((i 64).toInt < 8)) → a1 4 = a 4) ∧ (¬ (((0 : Int) ≤ x1.toInt) ∧ (x1.toInt ≤ 9) ∧ ((0 : Int) ≤ x2.toInt) ∧ (x2.toInt ≤ 9) ∧ ((i 64).toInt < 8)) → a1 5 = a 5) ∧ (¬ (((0 : Int) ≤ x1.toInt) ∧ (x1.toInt ≤ 9) ∧ ((0 : Int) ≤ x2.toInt) ∧ (x2.toInt ≤ 9) ∧ ((i 64).toInt < 8)) → a1 6 = a 6))
noncomputable def pt_ke135_116 (x1 : Int32) (x2 : Int32) (v : Int32) (i : Nat → Int32) (a : Nat → List Int32) (q : Nat → List Int64) (r : Nat → Nat) (i1 : Nat → Int32) (a1 : Nat → List Int32) (q1 : Nat → List Int64) (r1 : Nat → Nat) : Prop := (((v.toInt = (-1)) ∧ (¬ (((0 : Int) ≤ x1.toInt) ∧ (x1.toInt ≤ 9) ∧ ((0 : Int) ≤ x2.toInt) ∧ (x2.toInt ≤ 9))) ∧ ((i1 7424).toInt = (i 7424).toInt)) ∨ (((0 : Int) ≤ x1.toInt) ∧ (x1.toInt ≤ 9) ∧ ((0 : Int) ≤ x2.toInt) ∧ (x2.toInt ≤ 9) ∧ (((v.toInt = (-3)) ∧ ((8 : Int) ≤ (i 7424).toInt) ∧ ((i1 7424).toInt = (i 7424).toInt)) ∨ (((i 7424).toInt < 8) ∧ (v.toInt = (i 7424).toInt) ∧ ((i1 7424).toInt = ((i 7424).toInt + 1)))))) ∧ ((((0 : Int) ≤ x1.toInt) ∧ (x1.toInt ≤ 9) ∧ ((0 : Int) ≤ x2.toInt) ∧ (x2.toInt ≤ 9) ∧ ((i 7424).toInt < 8) → a1 118 = (a 118).set (i 7424).toNatClampNeg 100) ∧ (((0 : Int) ≤ x1.toInt) ∧ (x1.toInt ≤ 9) ∧ ((0 : Int) ≤ x2.toInt) ∧ (x2.toInt ≤ 9) ∧ ((i 7424).toInt < 8) → a1 117 = ((a 117).set (i 7424).toNatClampNeg x1).set (8 + i 7424).toNatClampNeg x2) ∧ (¬ (((0 : Int) ≤ x1.toInt) ∧ (x1.toInt ≤ 9) ∧ ((0 : Int) ≤ x2.toInt) ∧ (x2.toInt ≤ 9) ∧ ((i 7424).toInt < 8)) → a1 118 = a 118) ∧ (¬ (((0 : Int) ≤ x1.toInt) ∧ (x1.toInt ≤ 9) ∧ ((0 : Int) ≤ x2.toInt) ∧ (x2.toInt ≤ 9) ∧ ((i 7424).toInt < 8)) → a1 117 = a 117))
noncomputable def pt_ke83_0 (x1 : Int32) (x2 : Int32) (x3 : Int32) (v : Int32) (i : Nat → Int32) (a : Nat → List Int32) (q : Nat → List Int64) (r : Nat → Nat) (i1 : Nat → Int32) (a1 : Nat → List Int32) (q1 : Nat → List Int64) (r1 : Nat → Nat) : Prop := (True) ∧ (v = (cMend (i 64) x1 x2 x3 (a 2, a 3, a 4, a 5, i 70, i 71, i 72) (a 90, a 91, a 92, a 93, i 5700, i 5701)).1 ∧ a1 2 = ((cMend (i 64) x1 x2 x3 (a 2, a 3, a 4, a 5, i 70, i 71, i 72) (a 90, a 91, a 92, a 93, i 5700, i 5701)).2.1).1 ∧ a1 3 = ((cMend (i 64) x1 x2 x3 (a 2, a 3, a 4, a 5, i 70, i 71, i 72) (a 90, a 91, a 92, a 93, i 5700, i 5701)).2.1).2.1 ∧ a1 4 = ((cMend (i 64) x1 x2 x3 (a 2, a 3, a 4, a 5, i 70, i 71, i 72) (a 90, a 91, a 92, a 93, i 5700, i 5701)).2.1).2.2.1 ∧ a1 5 = ((cMend (i 64) x1 x2 x3 (a 2, a 3, a 4, a 5, i 70, i 71, i 72) (a 90, a 91, a 92, a 93, i 5700, i 5701)).2.1).2.2.2.1 ∧ i1 70 = ((cMend (i 64) x1 x2 x3 (a 2, a 3, a 4, a 5, i 70, i 71, i 72) (a 90, a 91, a 92, a 93, i 5700, i 5701)).2.1).2.2.2.2.1 ∧ i1 71 = ((cMend (i 64) x1 x2 x3 (a 2, a 3, a 4, a 5, i 70, i 71, i 72) (a 90, a 91, a 92, a 93, i 5700, i 5701)).2.1).2.2.2.2.2.1 ∧ i1 72 = ((cMend (i 64) x1 x2 x3 (a 2, a 3, a 4, a 5, i 70, i 71, i 72) (a 90, a 91, a 92, a 93, i 5700, i 5701)).2.1).2.2.2.2.2.2 ∧ a1 90 = ((cMend (i 64) x1 x2 x3 (a 2, a 3, a 4, a 5, i 70, i 71, i 72) (a 90, a 91, a 92, a 93, i 5700, i 5701)).2.2).1 ∧ a1 91 = ((cMend (i 64) x1 x2 x3 (a 2, a 3, a 4, a 5, i 70, i 71, i 72) (a 90, a 91, a 92, a 93, i 5700, i 5701)).2.2).2.1 ∧ a1 92 = ((cMend (i 64) x1 x2 x3 (a 2, a 3, a 4, a 5, i 70, i 71, i 72) (a 90, a 91, a 92, a 93, i 5700, i 5701)).2.2).2.2.1 ∧ a1 93 = ((cMend (i 64) x1 x2 x3 (a 2, a 3, a 4, a 5, i 70, i 71, i 72) (a 90, a 91, a 92, a 93, i 5700, i 5701)).2.2).2.2.2.1 ∧ i1 5700 = ((cMend (i 64) x1 x2 x3 (a 2, a 3, a 4, a 5, i 70, i 71, i 72) (a 90, a 91, a 92, a 93, i 5700, i 5701)).2.2).2.2.2.2.1 ∧ i1 5701 = ((cMend (i 64) x1 x2 x3 (a 2, a 3, a 4, a 5, i 70, i 71, i 72) (a 90, a 91, a 92, a 93, i 5700, i 5701)).2.2).2.2.2.2.2)
noncomputable def pt_ke142_116 (x1 : Int32) (x2 : Int32) (x3 : Int32) (v : Int32) (i : Nat → Int32) (a : Nat → List Int32) (q : Nat → List Int64) (r : Nat → Nat) (i1 : Nat → Int32) (a1 : Nat → List Int32) (q1 : Nat → List Int64) (r1 : Nat → Nat) : Prop := ((i1 7453).toInt ≤ (i1 7452).toInt) ∧ ((v = (rMend (i 7424) x1 x2 x3 (a 118, a 117, i 7426, i 7427) (a 133, i 7452, i 7453)).1 ∧ a1 118 = ((rMend (i 7424) x1 x2 x3 (a 118, a 117, i 7426, i 7427) (a 133, i 7452, i 7453)).2.1).1 ∧ a1 117 = ((rMend (i 7424) x1 x2 x3 (a 118, a 117, i 7426, i 7427) (a 133, i 7452, i 7453)).2.1).2.1 ∧ i1 7426 = ((rMend (i 7424) x1 x2 x3 (a 118, a 117, i 7426, i 7427) (a 133, i 7452, i 7453)).2.1).2.2.1 ∧ i1 7427 = ((rMend (i 7424) x1 x2 x3 (a 118, a 117, i 7426, i 7427) (a 133, i 7452, i 7453)).2.1).2.2.2 ∧ a1 133 = ((rMend (i 7424) x1 x2 x3 (a 118, a 117, i 7426, i 7427) (a 133, i 7452, i 7453)).2.2).1 ∧ i1 7452 = ((rMend (i 7424) x1 x2 x3 (a 118, a 117, i 7426, i 7427) (a 133, i 7452, i 7453)).2.2).2.1 ∧ i1 7453 = ((rMend (i 7424) x1 x2 x3 (a 118, a 117, i 7426, i 7427) (a 133, i 7452, i 7453)).2.2).2.2) ∧ kChL (a1 133))
noncomputable def pt_ke102_0 (x1 : Int32) (v : Int32) (i : Nat → Int32) (a : Nat → List Int32) (q : Nat → List Int64) (r : Nat → Nat) (i1 : Nat → Int32) (a1 : Nat → List Int32) (q1 : Nat → List Int64) (r1 : Nat → Nat) : Prop := (True) ∧ ((((0 : Int) ≤ x1.toInt) ∧ (x1.toInt < (i 64).toInt) ∧ (¬ (((i 71).toInt = 0) ∧ (((a 5).getD x1.toNatClampNeg 0).toInt = 1))) → i1 450 = (cPaid (i 64) (i 70) x1 5 (cT0 1 i a)).1 + 1) ∧ (((0 : Int) ≤ x1.toInt) ∧ (x1.toInt < (i 64).toInt) ∧ (¬ (((i 71).toInt = 0) ∧ (((a 5).getD x1.toNatClampNeg 0).toInt = 1))) → a1 8 = (cPaid (i 64) (i 70) x1 5 (cT0 1 i a)).2.1.set (cPaid (i 64) (i 70) x1 5 (cT0 1 i a)).1.toNatClampNeg x1) ∧ (((0 : Int) ≤ x1.toInt) ∧ (x1.toInt < (i 64).toInt) ∧ (¬ (((i 71).toInt = 0) ∧ (((a 5).getD x1.toNatClampNeg 0).toInt = 1))) → a1 9 = (cPaid (i 64) (i 70) x1 5 (cT0 1 i a)).2.2.1.set (cPaid (i 64) (i 70) x1 5 (cT0 1 i a)).1.toNatClampNeg (cBuyV (i (64 * r 0)) (a (r 0 + 1)) (a (r 0 + 2)) (a (r 0 + 3)) (i (64 * r 0 + 3)) ((a 3).getD x1.toNatClampNeg 0) ((a 2).getD x1.toNatClampNeg 0) ((a 4).getD x1.toNatClampNeg 0) (i 73) ((a 6).getD x1.toNatClampNeg 0) (i 72))) ∧ (((0 : Int) ≤ x1.toInt) ∧ (x1.toInt < (i 64).toInt) ∧ (¬ (((i 71).toInt = 0) ∧ (((a 5).getD x1.toNatClampNeg 0).toInt = 1))) → a1 2 = (cPaid (i 64) (i 70) x1 5 (cT0 1 i a)).2.2.2.1) ∧ (((0 : Int) ≤ x1.toInt) ∧ (x1.toInt < (i 64).toInt) ∧ (¬ (((i 71).toInt = 0) ∧ (((a 5).getD x1.toNatClampNeg 0).toInt = 1))) → i1 73 = i 73 + 1) ∧ (((0 : Int) ≤ x1.toInt) ∧ (x1.toInt < (i 64).toInt) ∧ (¬ (((i 71).toInt = 0) ∧ (((a 5).getD x1.toNatClampNeg 0).toInt = 1))) → a1 6 = (a 6).set x1.toNatClampNeg ((a 6).getD x1.toNatClampNeg 0 + 1)) ∧ (((0 : Int) ≤ x1.toInt) ∧ (x1.toInt < (i 64).toInt) ∧ (¬ (((i 71).toInt = 0) ∧ (((a 5).getD x1.toNatClampNeg 0).toInt = 1))) → a1 14 = ((cPaid (i 64) (i 70) x1 5 (cT0 1 i a)).2.2.2.2.2.2.1.set (0 : Int32).toNatClampNeg ((cPaid (i 64) (i 70) x1 5 (cT0 1 i a)).2.2.2.2.2.2.1.getD (0 : Int32).toNatClampNeg 0 + 1)).set (1 : Int32).toNatClampNeg (((cPaid (i 64) (i 70) x1 5 (cT0 1 i a)).2.2.2.2.2.2.1.set (0 : Int32).toNatClampNeg ((cPaid (i 64) (i 70) x1 5 (cT0 1 i a)).2.2.2.2.2.2.1.getD (0 : Int32).toNatClampNeg 0 + 1)).getD (1 : Int32).toNatClampNeg 0 + (cPaid (i 64) (i 70) x1 5 (cT0 1 i a)).2.2.2.2.2.1)) ∧ (((0 : Int) ≤ x1.toInt) ∧ (x1.toInt < (i 64).toInt) ∧ (¬ (((i 71).toInt = 0) ∧ (((a 5).getD x1.toNatClampNeg 0).toInt = 1))) → v = (cPaid (i 64) (i 70) x1 5 (cT0 1 i a)).2.2.2.2.2.1) ∧ (¬ (((0 : Int) ≤ x1.toInt) ∧ (x1.toInt < (i 64).toInt) ∧ (¬ (((i 71).toInt = 0) ∧ (((a 5).getD x1.toNatClampNeg 0).toInt = 1)))) → i1 450 = i 450) ∧ (¬ (((0 : Int) ≤ x1.toInt) ∧ (x1.toInt < (i 64).toInt) ∧ (¬ (((i 71).toInt = 0) ∧ (((a 5).getD x1.toNatClampNeg 0).toInt = 1)))) → a1 8 = a 8) ∧ (¬ (((0 : Int) ≤ x1.toInt) ∧ (x1.toInt < (i 64).toInt) ∧ (¬ (((i 71).toInt = 0) ∧ (((a 5).getD x1.toNatClampNeg 0).toInt = 1)))) → a1 9 = a 9) ∧ (¬ (((0 : Int) ≤ x1.toInt) ∧ (x1.toInt < (i 64).toInt) ∧ (¬ (((i 71).toInt = 0) ∧ (((a 5).getD x1.toNatClampNeg 0).toInt = 1)))) → a1 2 = a 2) ∧ (¬ (((0 : Int) ≤ x1.toInt) ∧ (x1.toInt < (i 64).toInt) ∧ (¬ (((i 71).toInt = 0) ∧ (((a 5).getD x1.toNatClampNeg 0).toInt = 1)))) → i1 73 = i 73) ∧ (¬ (((0 : Int) ≤ x1.toInt) ∧ (x1.toInt < (i 64).toInt) ∧ (¬ (((i 71).toInt = 0) ∧ (((a 5).getD x1.toNatClampNeg 0).toInt = 1)))) → a1 6 = a 6) ∧ (¬ (((0 : Int) ≤ x1.toInt) ∧ (x1.toInt < (i 64).toInt) ∧ (¬ (((i 71).toInt = 0) ∧ (((a 5).getD x1.toNatClampNeg 0).toInt = 1)))) → a1 14 = a 14) ∧ (((0 : Int) ≤ x1.toInt) ∧ (x1.toInt < (i 64).toInt) ∧ ((i 71).toInt = 0) ∧ (((a 5).getD x1.toNatClampNeg 0).toInt = 1) → v = 0) ∧ (¬ (((0 : Int) ≤ x1.toInt) ∧ (x1.toInt < (i 64).toInt)) → v = -1))
noncomputable def pt_ke202_116 (x1 : Int32) (v : Int32) (i : Nat → Int32) (a : Nat → List Int32) (q : Nat → List Int64) (r : Nat → Nat) (i1 : Nat → Int32) (a1 : Nat → List Int32) (q1 : Nat → List Int64) (r1 : Nat → Nat) : Prop := (True) ∧ ((((0 : Int) ≤ x1.toInt) ∧ (x1.toInt < (i 7424).toInt) ∧ (¬ ((((a 117).getD (16 + x1).toNatClampNeg 0).toInt = 1) ∧ ((i 7427).toInt = 0))) → a1 118 = sCome x1 (gBuy (i 7431) (a 120) (a 121) (a 122) (a 123) (i 7432) (a 117) (a 118) (gPaid (i 7426) x1 (a 118) 0 (a 141)).1 x1) (gPaid (i 7426) x1 (a 118) 0 (a 141)).1) ∧ (((0 : Int) ≤ x1.toInt) ∧ (x1.toInt < (i 7424).toInt) ∧ (¬ ((((a 117).getD (16 + x1).toNatClampNeg 0).toInt = 1) ∧ ((i 7427).toInt = 0))) → a1 130 = ((((a 130).set (0 : Int32).toNatClampNeg ((a 130).getD (0 : Int32).toNatClampNeg 0 + 1)).set (1 : Int32).toNatClampNeg (((a 130).set (0 : Int32).toNatClampNeg ((a 130).getD (0 : Int32).toNatClampNeg 0 + 1)).getD (1 : Int32).toNatClampNeg 0 + (gPaid (i 7426) x1 (a 118) 0 (a 141)).2.2.1)).set (2 : Int32).toNatClampNeg ((((a 130).set (0 : Int32).toNatClampNeg ((a 130).getD (0 : Int32).toNatClampNeg 0 + 1)).set (1 : Int32).toNatClampNeg (((a 130).set (0 : Int32).toNatClampNeg ((a 130).getD (0 : Int32).toNatClampNeg 0 + 1)).getD (1 : Int32).toNatClampNeg 0 + (gPaid (i 7426) x1 (a 118) 0 (a 141)).2.2.1)).getD (2 : Int32).toNatClampNeg 0 + (gPaid (i 7426) x1 (a 118) 0 (a 141)).2.2.2.1))) ∧ (((0 : Int) ≤ x1.toInt) ∧ (x1.toInt < (i 7424).toInt) ∧ (¬ ((((a 117).getD (16 + x1).toNatClampNeg 0).toInt = 1) ∧ ((i 7427).toInt = 0))) → v = (gPaid (i 7426) x1 (a 118) 0 (a 141)).2.2.1) ∧ (((0 : Int) ≤ x1.toInt) ∧ (x1.toInt < (i 7424).toInt) ∧ (((a 117).getD (16 + x1).toNatClampNeg 0).toInt = 1) ∧ ((i 7427).toInt = 0) → a1 118 = a 118) ∧ (((0 : Int) ≤ x1.toInt) ∧ (x1.toInt < (i 7424).toInt) ∧ (((a 117).getD (16 + x1).toNatClampNeg 0).toInt = 1) ∧ ((i 7427).toInt = 0) → a1 130 = (((a 130).set (1 : Int32).toNatClampNeg ((a 130).getD (1 : Int32).toNatClampNeg 0 + 0)).set (2 : Int32).toNatClampNeg (((a 130).set (1 : Int32).toNatClampNeg ((a 130).getD (1 : Int32).toNatClampNeg 0 + 0)).getD (2 : Int32).toNatClampNeg 0 + 0))) ∧ (((0 : Int) ≤ x1.toInt) ∧ (x1.toInt < (i 7424).toInt) ∧ (((a 117).getD (16 + x1).toNatClampNeg 0).toInt = 1) ∧ ((i 7427).toInt = 0) → v = 0) ∧ (¬ (((0 : Int) ≤ x1.toInt) ∧ (x1.toInt < (i 7424).toInt)) → a1 118 = a 118) ∧ (¬ (((0 : Int) ≤ x1.toInt) ∧ (x1.toInt < (i 7424).toInt)) → a1 130 = a 130) ∧ (¬ (((0 : Int) ≤ x1.toInt) ∧ (x1.toInt < (i 7424).toInt)) → v = -1))
noncomputable def pt_ke103_0  (v : Int32) (i : Nat → Int32) (a : Nat → List Int32) (q : Nat → List Int64) (r : Nat → Nat) (i1 : Nat → Int32) (a1 : Nat → List Int32) (q1 : Nat → List Int64) (r1 : Nat → Nat) : Prop := (True) ∧ (i1 72 = sMn 99 (i 72 + 1) ∧ i1 73 = 0 ∧ a1 6 = List.replicate 8 0 ∧ a1 14 = (a 14).set (3 : Int32).toNatClampNeg ((a 14).getD (3 : Int32).toNatClampNeg 0 + 1) ∧ v = sMn 99 (i 72 + 1))
noncomputable def pt_ke203_116  (v : Int32) (i : Nat → Int32) (a : Nat → List Int32) (q : Nat → List Int64) (r : Nat → Nat) (i1 : Nat → Int32) (a1 : Nat → List Int32) (q1 : Nat → List Int64) (r1 : Nat → Nat) : Prop := (True) ∧ (a1 118 = sEnds (a 118) ∧ a1 130 = (a 130).set (3 : Int32).toNatClampNeg ((a 130).getD (3 : Int32).toNatClampNeg 0 + 1) ∧ v = (sEnds (a 118)).getD (8 : Int32).toNatClampNeg 0)
noncomputable def pt_ke104_0 (x1 : Int32) (x2 : Int32) (x3 : Int32) (v : Int32) (i : Nat → Int32) (a : Nat → List Int32) (q : Nat → List Int64) (r : Nat → Nat) (i1 : Nat → Int32) (a1 : Nat → List Int32) (q1 : Nat → List Int64) (r1 : Nat → Nat) : Prop := (True) ∧ ((((0 : Int) ≤ x1.toInt) ∧ (x1.toInt < (i 64).toInt) ∧ ((0 : Int) ≤ x2.toInt) ∧ (x2.toInt < (i 64).toInt) ∧ (x1.toInt ≠ x2.toInt) ∧ ((1 : Int) ≤ x3.toInt) ∧ (x3.toInt ≤ 999) ∧ (x3.toInt ≤ ((a 2).getD x1.toNatClampNeg 0).toInt) → a1 2 = (((a 2).set x1.toNatClampNeg ((a 2).getD x1.toNatClampNeg 0 - x3)).set x2.toNatClampNeg (sMn 999 (((a 2).set x1.toNatClampNeg ((a 2).getD x1.toNatClampNeg 0 - x3)).getD x2.toNatClampNeg 0 + x3)))) ∧ (((0 : Int) ≤ x1.toInt) ∧ (x1.toInt < (i 64).toInt) ∧ ((0 : Int) ≤ x2.toInt) ∧ (x2.toInt < (i 64).toInt) ∧ (x1.toInt ≠ x2.toInt) ∧ ((1 : Int) ≤ x3.toInt) ∧ (x3.toInt ≤ 999) ∧ (x3.toInt ≤ ((a 2).getD x1.toNatClampNeg 0).toInt) → a1 14 = (a 14).set (4 : Int32).toNatClampNeg ((a 14).getD (4 : Int32).toNatClampNeg 0 + x3)) ∧ (((0 : Int) ≤ x1.toInt) ∧ (x1.toInt < (i 64).toInt) ∧ ((0 : Int) ≤ x2.toInt) ∧ (x2.toInt < (i 64).toInt) ∧ (x1.toInt ≠ x2.toInt) ∧ ((1 : Int) ≤ x3.toInt) ∧ (x3.toInt ≤ 999) ∧ (x3.toInt ≤ ((a 2).getD x1.toNatClampNeg 0).toInt) → v = (((a 2).set x1.toNatClampNeg ((a 2).getD x1.toNatClampNeg 0 - x3)).set x2.toNatClampNeg (sMn 999 (((a 2).set x1.toNatClampNeg ((a 2).getD x1.toNatClampNeg 0 - x3)).getD x2.toNatClampNeg 0 + x3))).getD x1.toNatClampNeg 0) ∧ (¬ (((0 : Int) ≤ x1.toInt) ∧ (x1.toInt < (i 64).toInt) ∧ ((0 : Int) ≤ x2.toInt) ∧ (x2.toInt < (i 64).toInt) ∧ (x1.toInt ≠ x2.toInt) ∧ ((1 : Int) ≤ x3.toInt) ∧ (x3.toInt ≤ 999) ∧ (x3.toInt ≤ ((a 2).getD x1.toNatClampNeg 0).toInt)) → a1 2 = a 2) ∧ (¬ (((0 : Int) ≤ x1.toInt) ∧ (x1.toInt < (i 64).toInt) ∧ ((0 : Int) ≤ x2.toInt) ∧ (x2.toInt < (i 64).toInt) ∧ (x1.toInt ≠ x2.toInt) ∧ ((1 : Int) ≤ x3.toInt) ∧ (x3.toInt ≤ 999) ∧ (x3.toInt ≤ ((a 2).getD x1.toNatClampNeg 0).toInt)) → a1 14 = a 14) ∧ (((0 : Int) ≤ x1.toInt) ∧ (x1.toInt < (i 64).toInt) ∧ ((0 : Int) ≤ x2.toInt) ∧ (x2.toInt < (i 64).toInt) ∧ (x1.toInt ≠ x2.toInt) ∧ ((1 : Int) ≤ x3.toInt) ∧ (x3.toInt ≤ 999) ∧ (((a 2).getD x1.toNatClampNeg 0).toInt < x3.toInt) → v = -5) ∧ (¬ (((0 : Int) ≤ x1.toInt) ∧ (x1.toInt < (i 64).toInt) ∧ ((0 : Int) ≤ x2.toInt) ∧ (x2.toInt < (i 64).toInt) ∧ (x1.toInt ≠ x2.toInt) ∧ ((1 : Int) ≤ x3.toInt) ∧ (x3.toInt ≤ 999)) → v = -1))
noncomputable def pt_ke204_116 (x1 : Int32) (x2 : Int32) (x3 : Int32) (v : Int32) (i : Nat → Int32) (a : Nat → List Int32) (q : Nat → List Int64) (r : Nat → Nat) (i1 : Nat → Int32) (a1 : Nat → List Int32) (q1 : Nat → List Int64) (r1 : Nat → Nat) : Prop := (True) ∧ ((((0 : Int) ≤ x1.toInt) ∧ (x1.toInt < (i 7424).toInt) ∧ ((0 : Int) ≤ x2.toInt) ∧ (x2.toInt < (i 7424).toInt) ∧ (x1.toInt ≠ x2.toInt) ∧ ((1 : Int) ≤ x3.toInt) ∧ (x3.toInt ≤ 999) ∧ (x3.toInt ≤ ((a 118).getD x1.toNatClampNeg 0).toInt) → a1 118 = (((a 118).set x1.toNatClampNeg ((a 118).getD x1.toNatClampNeg 0 - x3)).set x2.toNatClampNeg (sMn 999 (((a 118).set x1.toNatClampNeg ((a 118).getD x1.toNatClampNeg 0 - x3)).getD x2.toNatClampNeg 0 + x3)))) ∧ (((0 : Int) ≤ x1.toInt) ∧ (x1.toInt < (i 7424).toInt) ∧ ((0 : Int) ≤ x2.toInt) ∧ (x2.toInt < (i 7424).toInt) ∧ (x1.toInt ≠ x2.toInt) ∧ ((1 : Int) ≤ x3.toInt) ∧ (x3.toInt ≤ 999) ∧ (x3.toInt ≤ ((a 118).getD x1.toNatClampNeg 0).toInt) → a1 130 = (a 130).set (4 : Int32).toNatClampNeg ((a 130).getD (4 : Int32).toNatClampNeg 0 + x3)) ∧ (((0 : Int) ≤ x1.toInt) ∧ (x1.toInt < (i 7424).toInt) ∧ ((0 : Int) ≤ x2.toInt) ∧ (x2.toInt < (i 7424).toInt) ∧ (x1.toInt ≠ x2.toInt) ∧ ((1 : Int) ≤ x3.toInt) ∧ (x3.toInt ≤ 999) ∧ (x3.toInt ≤ ((a 118).getD x1.toNatClampNeg 0).toInt) → v = (((a 118).set x1.toNatClampNeg ((a 118).getD x1.toNatClampNeg 0 - x3)).set x2.toNatClampNeg (sMn 999 (((a 118).set x1.toNatClampNeg ((a 118).getD x1.toNatClampNeg 0 - x3)).getD x2.toNatClampNeg 0 + x3))).getD x1.toNatClampNeg 0) ∧ (¬ (((0 : Int) ≤ x1.toInt) ∧ (x1.toInt < (i 7424).toInt) ∧ ((0 : Int) ≤ x2.toInt) ∧ (x2.toInt < (i 7424).toInt) ∧ (x1.toInt ≠ x2.toInt) ∧ ((1 : Int) ≤ x3.toInt) ∧ (x3.toInt ≤ 999) ∧ (x3.toInt ≤ ((a 118).getD x1.toNatClampNeg 0).toInt)) → a1 118 = a 118) ∧ (¬ (((0 : Int) ≤ x1.toInt) ∧ (x1.toInt < (i 7424).toInt) ∧ ((0 : Int) ≤ x2.toInt) ∧ (x2.toInt < (i 7424).toInt) ∧ (x1.toInt ≠ x2.toInt) ∧ ((1 : Int) ≤ x3.toInt) ∧ (x3.toInt ≤ 999) ∧ (x3.toInt ≤ ((a 118).getD x1.toNatClampNeg 0).toInt)) → a1 130 = a 130) ∧ (((0 : Int) ≤ x1.toInt) ∧ (x1.toInt < (i 7424).toInt) ∧ ((0 : Int) ≤ x2.toInt) ∧ (x2.toInt < (i 7424).toInt) ∧ (x1.toInt ≠ x2.toInt) ∧ ((1 : Int) ≤ x3.toInt) ∧ (x3.toInt ≤ 999) ∧ (((a 118).getD x1.toNatClampNeg 0).toInt < x3.toInt) → v = -5) ∧ (¬ (((0 : Int) ≤ x1.toInt) ∧ (x1.toInt < (i 7424).toInt) ∧ ((0 : Int) ≤ x2.toInt) ∧ (x2.toInt < (i 7424).toInt) ∧ (x1.toInt ≠ x2.toInt) ∧ ((1 : Int) ≤ x3.toInt) ∧ (x3.toInt ≤ 999)) → v = -1))
noncomputable def pt_ke106_0  (v : Int32) (i : Nat → Int32) (a : Nat → List Int32) (q : Nat → List Int64) (r : Nat → Nat) (i1 : Nat → Int32) (a1 : Nat → List Int32) (q1 : Nat → List Int64) (r1 : Nat → Nat) : Prop := (True) ∧ (a1 26 = mi_cpy (a 2) (a 26) (0 : Int32).toNatClampNeg (0 : Int32).toNatClampNeg (sMx 0 (sMn (i 64) 8)).toNatClampNeg ∧ a1 30 = mi_cpy (a 6) (a 30) (0 : Int32).toNatClampNeg (0 : Int32).toNatClampNeg (sMx 0 (sMn (i 64) 8)).toNatClampNeg ∧ a1 38 = mi_cpy (a 14) (a 38) (0 : Int32).toNatClampNeg (0 : Int32).toNatClampNeg (5 : Int32).toNatClampNeg ∧ i1 1608 = i 72 ∧ i1 1609 = i 73 ∧ a1 32 = mi_cpy (a 8) (a 32) (0 : Int32).toNatClampNeg (0 : Int32).toNatClampNeg (5 : Int32).toNatClampNeg ∧ a1 33 = mi_cpy (a 9) (a 33) (0 : Int32).toNatClampNeg (0 : Int32).toNatClampNeg (5 : Int32).toNatClampNeg ∧ i1 1986 = i 450 ∧ i1 1600 = i 64 ∧ i1 2 = 1 ∧ v = (a 14).getD (0 : Int32).toNatClampNeg 0)
noncomputable def pt_ke206_116  (v : Int32) (i : Nat → Int32) (a : Nat → List Int32) (q : Nat → List Int64) (r : Nat → Nat) (i1 : Nat → Int32) (a1 : Nat → List Int32) (q1 : Nat → List Int64) (r1 : Nat → Nat) : Prop := (True) ∧ (i1 7448 = 1 ∧ i1 7449 = i 7424 ∧ a1 131 = a 118 ∧ a1 132 = a 130 ∧ v = (a 130).getD (0 : Int32).toNatClampNeg 0)
noncomputable def pt_ke107_0  (v : Int32) (i : Nat → Int32) (a : Nat → List Int32) (q : Nat → List Int64) (r : Nat → Nat) (i1 : Nat → Int32) (a1 : Nat → List Int32) (q1 : Nat → List Int64) (r1 : Nat → Nat) : Prop := (True) ∧ (((i 2).toInt ≠ 0 → a1 2 = mi_cpy (a 26) (a 2) (0 : Int32).toNatClampNeg (0 : Int32).toNatClampNeg (sMx 0 (sMn (i 1600) 8)).toNatClampNeg) ∧ ((i 2).toInt ≠ 0 → a1 6 = mi_cpy (a 30) (a 6) (0 : Int32).toNatClampNeg (0 : Int32).toNatClampNeg (sMx 0 (sMn (i 1600) 8)).toNatClampNeg) ∧ ((i 2).toInt ≠ 0 → a1 14 = mi_cpy (a 38) (a 14) (0 : Int32).toNatClampNeg (0 : Int32).toNatClampNeg (5 : Int32).toNatClampNeg) ∧ ((i 2).toInt ≠ 0 → i1 72 = i 1608) ∧ ((i 2).toInt ≠ 0 → i1 73 = i 1609) ∧ ((i 2).toInt ≠ 0 → a1 8 = mi_cpy (a 32) (a 8) (0 : Int32).toNatClampNeg (0 : Int32).toNatClampNeg (5 : Int32).toNatClampNeg) ∧ ((i 2).toInt ≠ 0 → a1 9 = mi_cpy (a 33) (a 9) (0 : Int32).toNatClampNeg (0 : Int32).toNatClampNeg (5 : Int32).toNatClampNeg) ∧ ((i 2).toInt ≠ 0 → i1 450 = i 1986) ∧ ((i 2).toInt ≠ 0 → v = (mi_cpy (a 38) (a 14) (0 : Int32).toNatClampNeg (0 : Int32).toNatClampNeg (5 : Int32).toNatClampNeg).getD (0 : Int32).toNatClampNeg 0) ∧ ((i 2).toInt = 0 → a1 2 = a 2) ∧ ((i 2).toInt = 0 → a1 6 = a 6) ∧ ((i 2).toInt = 0 → a1 14 = a 14) ∧ ((i 2).toInt = 0 → i1 72 = i 72) ∧ ((i 2).toInt = 0 → i1 73 = i 73) ∧ ((i 2).toInt = 0 → a1 8 = a 8) ∧ ((i 2).toInt = 0 → a1 9 = a 9) ∧ ((i 2).toInt = 0 → i1 450 = i 450) ∧ ((i 2).toInt = 0 → v = -5))
noncomputable def pt_ke207_116  (v : Int32) (i : Nat → Int32) (a : Nat → List Int32) (q : Nat → List Int64) (r : Nat → Nat) (i1 : Nat → Int32) (a1 : Nat → List Int32) (q1 : Nat → List Int64) (r1 : Nat → Nat) : Prop := (True) ∧ (((i 7448).toInt ≠ 0 → a1 118 = rBk (i 7449) (a 118) (a 131)) ∧ ((i 7448).toInt ≠ 0 → a1 130 = a 132) ∧ ((i 7448).toInt ≠ 0 → v = (a 132).getD (0 : Int32).toNatClampNeg 0) ∧ ((i 7448).toInt = 0 → a1 118 = a 118) ∧ ((i 7448).toInt = 0 → a1 130 = a 130) ∧ ((i 7448).toInt = 0 → v = -5))
noncomputable def pt_ke108_0  (v : Int32) (i : Nat → Int32) (a : Nat → List Int32) (q : Nat → List Int64) (r : Nat → Nat) (i1 : Nat → Int32) (a1 : Nat → List Int32) (q1 : Nat → List Int64) (r1 : Nat → Nat) : Prop := (True) ∧ (v = (cUndo (i 64) (a 2, a 3, a 4, a 5, i 70, i 71, i 72) (a 90, a 91, a 92, a 93, i 5700, i 5701)).1 ∧ a1 2 = ((cUndo (i 64) (a 2, a 3, a 4, a 5, i 70, i 71, i 72) (a 90, a 91, a 92, a 93, i 5700, i 5701)).2.1).1 ∧ a1 3 = ((cUndo (i 64) (a 2, a 3, a 4, a 5, i 70, i 71, i 72) (a 90, a 91, a 92, a 93, i 5700, i 5701)).2.1).2.1 ∧ a1 4 = ((cUndo (i 64) (a 2, a 3, a 4, a 5, i 70, i 71, i 72) (a 90, a 91, a 92, a 93, i 5700, i 5701)).2.1).2.2.1 ∧ a1 5 = ((cUndo (i 64) (a 2, a 3, a 4, a 5, i 70, i 71, i 72) (a 90, a 91, a 92, a 93, i 5700, i 5701)).2.1).2.2.2.1 ∧ i1 70 = ((cUndo (i 64) (a 2, a 3, a 4, a 5, i 70, i 71, i 72) (a 90, a 91, a 92, a 93, i 5700, i 5701)).2.1).2.2.2.2.1 ∧ i1 71 = ((cUndo (i 64) (a 2, a 3, a 4, a 5, i 70, i 71, i 72) (a 90, a 91, a 92, a 93, i 5700, i 5701)).2.1).2.2.2.2.2.1 ∧ i1 72 = ((cUndo (i 64) (a 2, a 3, a 4, a 5, i 70, i 71, i 72) (a 90, a 91, a 92, a 93, i 5700, i 5701)).2.1).2.2.2.2.2.2 ∧ a1 90 = ((cUndo (i 64) (a 2, a 3, a 4, a 5, i 70, i 71, i 72) (a 90, a 91, a 92, a 93, i 5700, i 5701)).2.2).1 ∧ a1 91 = ((cUndo (i 64) (a 2, a 3, a 4, a 5, i 70, i 71, i 72) (a 90, a 91, a 92, a 93, i 5700, i 5701)).2.2).2.1 ∧ a1 92 = ((cUndo (i 64) (a 2, a 3, a 4, a 5, i 70, i 71, i 72) (a 90, a 91, a 92, a 93, i 5700, i 5701)).2.2).2.2.1 ∧ a1 93 = ((cUndo (i 64) (a 2, a 3, a 4, a 5, i 70, i 71, i 72) (a 90, a 91, a 92, a 93, i 5700, i 5701)).2.2).2.2.2.1 ∧ i1 5700 = ((cUndo (i 64) (a 2, a 3, a 4, a 5, i 70, i 71, i 72) (a 90, a 91, a 92, a 93, i 5700, i 5701)).2.2).2.2.2.2.1 ∧ i1 5701 = ((cUndo (i 64) (a 2, a 3, a 4, a 5, i 70, i 71, i 72) (a 90, a 91, a 92, a 93, i 5700, i 5701)).2.2).2.2.2.2.2)
noncomputable def pt_ke144_116  (v : Int32) (i : Nat → Int32) (a : Nat → List Int32) (q : Nat → List Int64) (r : Nat → Nat) (i1 : Nat → Int32) (a1 : Nat → List Int32) (q1 : Nat → List Int64) (r1 : Nat → Nat) : Prop := ((i1 7453).toInt ≤ (i1 7452).toInt) ∧ (v = (rUndo (a 118, a 117, i 7426, i 7427) (a 133, i 7452, i 7453)).1 ∧ a1 118 = ((rUndo (a 118, a 117, i 7426, i 7427) (a 133, i 7452, i 7453)).2.1).1 ∧ a1 117 = ((rUndo (a 118, a 117, i 7426, i 7427) (a 133, i 7452, i 7453)).2.1).2.1 ∧ i1 7426 = ((rUndo (a 118, a 117, i 7426, i 7427) (a 133, i 7452, i 7453)).2.1).2.2.1 ∧ i1 7427 = ((rUndo (a 118, a 117, i 7426, i 7427) (a 133, i 7452, i 7453)).2.1).2.2.2 ∧ a1 133 = ((rUndo (a 118, a 117, i 7426, i 7427) (a 133, i 7452, i 7453)).2.2).1 ∧ i1 7452 = ((rUndo (a 118, a 117, i 7426, i 7427) (a 133, i 7452, i 7453)).2.2).2.1 ∧ i1 7453 = ((rUndo (a 118, a 117, i 7426, i 7427) (a 133, i 7452, i 7453)).2.2).2.2)
noncomputable def pt_ke109_0  (v : Int32) (i : Nat → Int32) (a : Nat → List Int32) (q : Nat → List Int64) (r : Nat → Nat) (i1 : Nat → Int32) (a1 : Nat → List Int32) (q1 : Nat → List Int64) (r1 : Nat → Nat) : Prop := (True) ∧ (v = (cRedo (i 64) (a 2, a 3, a 4, a 5, i 70, i 71, i 72) (a 90, a 91, a 92, a 93, i 5700, i 5701)).1 ∧ a1 2 = ((cRedo (i 64) (a 2, a 3, a 4, a 5, i 70, i 71, i 72) (a 90, a 91, a 92, a 93, i 5700, i 5701)).2.1).1 ∧ a1 3 = ((cRedo (i 64) (a 2, a 3, a 4, a 5, i 70, i 71, i 72) (a 90, a 91, a 92, a 93, i 5700, i 5701)).2.1).2.1 ∧ a1 4 = ((cRedo (i 64) (a 2, a 3, a 4, a 5, i 70, i 71, i 72) (a 90, a 91, a 92, a 93, i 5700, i 5701)).2.1).2.2.1 ∧ a1 5 = ((cRedo (i 64) (a 2, a 3, a 4, a 5, i 70, i 71, i 72) (a 90, a 91, a 92, a 93, i 5700, i 5701)).2.1).2.2.2.1 ∧ i1 70 = ((cRedo (i 64) (a 2, a 3, a 4, a 5, i 70, i 71, i 72) (a 90, a 91, a 92, a 93, i 5700, i 5701)).2.1).2.2.2.2.1 ∧ i1 71 = ((cRedo (i 64) (a 2, a 3, a 4, a 5, i 70, i 71, i 72) (a 90, a 91, a 92, a 93, i 5700, i 5701)).2.1).2.2.2.2.2.1 ∧ i1 72 = ((cRedo (i 64) (a 2, a 3, a 4, a 5, i 70, i 71, i 72) (a 90, a 91, a 92, a 93, i 5700, i 5701)).2.1).2.2.2.2.2.2 ∧ a1 90 = ((cRedo (i 64) (a 2, a 3, a 4, a 5, i 70, i 71, i 72) (a 90, a 91, a 92, a 93, i 5700, i 5701)).2.2).1 ∧ a1 91 = ((cRedo (i 64) (a 2, a 3, a 4, a 5, i 70, i 71, i 72) (a 90, a 91, a 92, a 93, i 5700, i 5701)).2.2).2.1 ∧ a1 92 = ((cRedo (i 64) (a 2, a 3, a 4, a 5, i 70, i 71, i 72) (a 90, a 91, a 92, a 93, i 5700, i 5701)).2.2).2.2.1 ∧ a1 93 = ((cRedo (i 64) (a 2, a 3, a 4, a 5, i 70, i 71, i 72) (a 90, a 91, a 92, a 93, i 5700, i 5701)).2.2).2.2.2.1 ∧ i1 5700 = ((cRedo (i 64) (a 2, a 3, a 4, a 5, i 70, i 71, i 72) (a 90, a 91, a 92, a 93, i 5700, i 5701)).2.2).2.2.2.2.1 ∧ i1 5701 = ((cRedo (i 64) (a 2, a 3, a 4, a 5, i 70, i 71, i 72) (a 90, a 91, a 92, a 93, i 5700, i 5701)).2.2).2.2.2.2.2)
noncomputable def pt_ke145_116  (v : Int32) (i : Nat → Int32) (a : Nat → List Int32) (q : Nat → List Int64) (r : Nat → Nat) (i1 : Nat → Int32) (a1 : Nat → List Int32) (q1 : Nat → List Int64) (r1 : Nat → Nat) : Prop := ((i1 7453).toInt ≤ (i1 7452).toInt) ∧ (v = (rRedo (a 118, a 117, i 7426, i 7427) (a 133, i 7452, i 7453)).1 ∧ a1 118 = ((rRedo (a 118, a 117, i 7426, i 7427) (a 133, i 7452, i 7453)).2.1).1 ∧ a1 117 = ((rRedo (a 118, a 117, i 7426, i 7427) (a 133, i 7452, i 7453)).2.1).2.1 ∧ i1 7426 = ((rRedo (a 118, a 117, i 7426, i 7427) (a 133, i 7452, i 7453)).2.1).2.2.1 ∧ i1 7427 = ((rRedo (a 118, a 117, i 7426, i 7427) (a 133, i 7452, i 7453)).2.1).2.2.2 ∧ a1 133 = ((rRedo (a 118, a 117, i 7426, i 7427) (a 133, i 7452, i 7453)).2.2).1 ∧ i1 7452 = ((rRedo (a 118, a 117, i 7426, i 7427) (a 133, i 7452, i 7453)).2.2).2.1 ∧ i1 7453 = ((rRedo (a 118, a 117, i 7426, i 7427) (a 133, i 7452, i 7453)).2.2).2.2)
end
section
/-! THE MARKET OF CLASS AND REFERENCE, ALIKE BETWEEN TWO CALLS -/
noncomputable def kUn (w : kW) (F A R : List Nat) : Bool := F.all (fun k => !kM w.1 k) && (A.all (fun k => !kM w.2.1 k) && R.all (fun k => !kM w.2.2.2 k))
theorem kUn_all {w : kW} {F A R : List Nat} (h : kUn w F A R = true) : (∀ k ∈ F, kM w.1 k = false) ∧ (∀ k ∈ A, kM w.2.1 k = false) ∧ (∀ k ∈ R, kM w.2.2.2 k = false) := by
  unfold kUn at h
  simp only [Bool.and_eq_true, List.all_eq_true, Bool.not_eq_true'] at h
  exact h
noncomputable def wl (i : Nat → Int32) (a : Nat → List Int32) : List Int32 → Int32 := fun nm => wLaw (a 120) (a 121) (a 122) (a 123) nm (i 7432).toInt.toNat 0
noncomputable def kLaw (i : Nat → Int32) (a : Nat → List Int32) (r : Nat → Nat) : Prop := i (64 * r 0) = i 7431 ∧ ((i 7431).toInt ≠ 0 → kLv (wl i a) (a (r 0 + 1)) (a (r 0 + 2)) (i (64 * r 0 + 3)))
noncomputable def mImg (b : Int32) (P O : List Int32) (dy cm op : Int32) (Wh Mu S : List Int32) : Prop :=
  (∀ j : Nat, (j : Int) < b.toInt → P.getD j 0 = S.getD j 0 ∧ O.getD j 0 = S.getD (10 + j) 0) ∧ dy = S.getD 8 0 ∧ cm = S.getD 9 0 ∧ op = S.getD 18 0 ∧ ∀ j : Nat, (j : Int) < op.toInt → Wh.getD j 0 = S.getD (19 + j) 0 ∧ Mu.getD j 0 = S.getD (25 + j) 0 ∧ 0 ≤ (Wh.getD j 0).toInt ∧ (Wh.getD j 0).toInt < b.toInt
noncomputable def kMk (i : Nat → Int32) (a : Nat → List Int32) : Prop := mNow (i 64) (a 2) (a 6) (i 72) (i 73) (i 450) (a 8) (a 9) (a 118)
noncomputable def kNr (i : Nat → Int32) (a : Nat → List Int32) : Prop := nRel (a 2, a 3, a 4, a 5, i 70, i 71, i 72) (a 118, a 117, i 7426, i 7427)
noncomputable def kGr (i : Nat → Int32) (a : Nat → List Int32) : Prop := gRel (i 64) (a 90, a 91, a 92, a 93, i 5700, i 5701) (a 133, i 7452, i 7453)
noncomputable def kZe (i : Nat → Int32) (a : Nat → List Int32) : Prop := ∀ j : Nat, (i 64).toInt ≤ (j : Int) → j < 8 → (a 118).getD (10 + j) 0 = 0 ∧ (a 117).getD (16 + j) 0 = 0
noncomputable def kIm (i : Nat → Int32) (a : Nat → List Int32) : Prop := i 2 = i 7448 ∧ ((i 2).toInt ≠ 0 → i 1600 = i 7449 ∧ (i 1600).toInt ≤ (i 64).toInt ∧ mImg (i 1600) (a 26) (a 30) (i 1608) (i 1609) (i 1986) (a 32) (a 33) (a 131) ∧ a 38 = a 132)
noncomputable def kMar (i : Nat → Int32) (a : Nat → List Int32) (r : Nat → Nat) : Prop := i 64 = i 7424 ∧ kMk i a ∧ kNr i a ∧ kGr i a ∧ a 14 = a 130 ∧ kZe i a ∧ kLaw i a r ∧ kIm i a
section RM
variable {w : kW} {i i1 : Nat → Int32} {a a1 : Nat → List Int32} {q q1 : Nat → List Int64} {r r1 : Nat → Nat}
theorem kl_2 (hI : kI i a q) : (a 2).length = 8 := hI.2.1 2
theorem kl_3 (hI : kI i a q) : (a 3).length = 8 := hI.2.1 3
theorem kl_4 (hI : kI i a q) : (a 4).length = 8 := hI.2.1 4
theorem kl_5 (hI : kI i a q) : (a 5).length = 8 := hI.2.1 5
theorem kl_6 (hI : kI i a q) : (a 6).length = 8 := hI.2.1 6
theorem kl_8 (hI : kI i a q) : (a 8).length = 5 := hI.2.1 8
theorem kl_9 (hI : kI i a q) : (a 9).length = 5 := hI.2.1 9
theorem kl_14 (hI : kI i a q) : (a 14).length = 5 := hI.2.1 14
theorem kl_16 (hI : kI i a q) : (a 16).length = 8 := hI.2.1 16
theorem kl_17 (hI : kI i a q) : (a 17).length = 8 := hI.2.1 17
theorem kl_18 (hI : kI i a q) : (a 18).length = 8 := hI.2.1 18
theorem kl_19 (hI : kI i a q) : (a 19).length = 8 := hI.2.1 19
theorem kl_20 (hI : kI i a q) : (a 20).length = 8 := hI.2.1 20
theorem kl_21 (hI : kI i a q) : (a 21).length = 8 := hI.2.1 21
theorem kl_22 (hI : kI i a q) : (a 22).length = 8 := hI.2.1 22
theorem kl_23 (hI : kI i a q) : (a 23).length = 8 := hI.2.1 23
theorem kl_26 (hI : kI i a q) : (a 26).length = 8 := hI.2.1 26
theorem kl_30 (hI : kI i a q) : (a 30).length = 8 := hI.2.1 30
theorem kl_32 (hI : kI i a q) : (a 32).length = 5 := hI.2.1 32
theorem kl_33 (hI : kI i a q) : (a 33).length = 5 := hI.2.1 33
theorem kl_38 (hI : kI i a q) : (a 38).length = 5 := hI.2.1 38
theorem kl_90 (hI : kI i a q) : (a 90).length = 40 := hI.2.1 90
theorem kl_91 (hI : kI i a q) : (a 91).length = 40 := hI.2.1 91
theorem kl_92 (hI : kI i a q) : (a 92).length = 40 := hI.2.1 92
theorem kl_93 (hI : kI i a q) : (a 93).length = 40 := hI.2.1 93
theorem kl_117 (hI : kI i a q) : (a 117).length = 24 := hI.2.1 117
theorem kl_118 (hI : kI i a q) : (a 118).length = 31 := hI.2.1 118
theorem kl_130 (hI : kI i a q) : (a 130).length = 5 := hI.2.1 130
theorem kl_133 (hI : kI i a q) : (a 133).length = 160 := hI.2.1 133
theorem kl_141 (hI : kI i a q) : (a 141).length = 64 := hI.2.1 141
theorem kCn_fr (g : kG w i a q r i1 a1 q1 r1) (f : kUn w [64, 7424] [] [] = true) (h : i 64 = i 7424) : i1 64 = i1 7424 := by
  obtain ⟨f1, f2, _⟩ := kUn_all f
  rw [g.fi 64 (f1 64 (by decide)), g.fi 7424 (f1 7424 (by decide))]
  exact h
theorem kMk_fr (g : kG w i a q r i1 a1 q1 r1) (f : kUn w [64, 72, 73, 450] [2, 6, 8, 9, 118] [] = true) (h : kMk i a) : kMk i1 a1 := by
  obtain ⟨f1, f2, _⟩ := kUn_all f
  unfold kMk
  rw [g.fi 64 (f1 64 (by decide)), g.fi 72 (f1 72 (by decide)), g.fi 73 (f1 73 (by decide)), g.fi 450 (f1 450 (by decide)), g.fa 2 (f2 2 (by decide)), g.fa 6 (f2 6 (by decide)), g.fa 8 (f2 8 (by decide)), g.fa 9 (f2 9 (by decide)), g.fa 118 (f2 118 (by decide))]
  exact h
theorem kNr_fr (g : kG w i a q r i1 a1 q1 r1) (f : kUn w [70, 71, 72, 7426, 7427] [2, 3, 4, 5, 118, 117] [] = true) (h : kNr i a) : kNr i1 a1 := by
  obtain ⟨f1, f2, _⟩ := kUn_all f
  unfold kNr
  rw [g.fi 70 (f1 70 (by decide)), g.fi 71 (f1 71 (by decide)), g.fi 72 (f1 72 (by decide)), g.fi 7426 (f1 7426 (by decide)), g.fi 7427 (f1 7427 (by decide)), g.fa 2 (f2 2 (by decide)), g.fa 3 (f2 3 (by decide)), g.fa 4 (f2 4 (by decide)), g.fa 5 (f2 5 (by decide)), g.fa 118 (f2 118 (by decide)), g.fa 117 (f2 117 (by decide))]
  exact h
theorem kGr_fr (g : kG w i a q r i1 a1 q1 r1) (f : kUn w [64, 5700, 5701, 7452, 7453] [90, 91, 92, 93, 133] [] = true) (h : kGr i a) : kGr i1 a1 := by
  obtain ⟨f1, f2, _⟩ := kUn_all f
  unfold kGr
  rw [g.fi 64 (f1 64 (by decide)), g.fi 5700 (f1 5700 (by decide)), g.fi 5701 (f1 5701 (by decide)), g.fi 7452 (f1 7452 (by decide)), g.fi 7453 (f1 7453 (by decide)), g.fa 90 (f2 90 (by decide)), g.fa 91 (f2 91 (by decide)), g.fa 92 (f2 92 (by decide)), g.fa 93 (f2 93 (by decide)), g.fa 133 (f2 133 (by decide))]
  exact h
theorem kLd_fr (g : kG w i a q r i1 a1 q1 r1) (f : kUn w [] [14, 130] [] = true) (h : a 14 = a 130) : a1 14 = a1 130 := by
  obtain ⟨f1, f2, _⟩ := kUn_all f
  rw [g.fa 14 (f2 14 (by decide)), g.fa 130 (f2 130 (by decide))]
  exact h
theorem kZe_fr (g : kG w i a q r i1 a1 q1 r1) (f : kUn w [64] [118, 117] [] = true) (h : kZe i a) : kZe i1 a1 := by
  obtain ⟨f1, f2, _⟩ := kUn_all f
  unfold kZe
  rw [g.fi 64 (f1 64 (by decide)), g.fa 118 (f2 118 (by decide)), g.fa 117 (f2 117 (by decide))]
  exact h
theorem kIm_fr (g : kG w i a q r i1 a1 q1 r1) (f : kUn w [2, 7448, 64, 1600, 1608, 1609, 1986, 7449] [26, 30, 32, 33, 38, 131, 132] [] = true) (h : kIm i a) : kIm i1 a1 := by
  obtain ⟨f1, f2, _⟩ := kUn_all f
  unfold kIm
  rw [g.fi 2 (f1 2 (by decide)), g.fi 7448 (f1 7448 (by decide)), g.fi 64 (f1 64 (by decide)), g.fi 1600 (f1 1600 (by decide)), g.fi 1608 (f1 1608 (by decide)), g.fi 1609 (f1 1609 (by decide)), g.fi 1986 (f1 1986 (by decide)), g.fi 7449 (f1 7449 (by decide)), g.fa 26 (f2 26 (by decide)), g.fa 30 (f2 30 (by decide)), g.fa 32 (f2 32 (by decide)), g.fa 33 (f2 33 (by decide)), g.fa 38 (f2 38 (by decide)), g.fa 131 (f2 131 (by decide)), g.fa 132 (f2 132 (by decide))]
  exact h
theorem kLaw_of (hr : kr r) (h : kLaw i a r) (er : r1 0 = r 0) (e0 : i1 7431 = i 7431) (e1 : i1 7432 = i 7432) (h1 : a1 120 = a 120) (h2 : a1 121 = a 121) (h3 : a1 122 = a 122) (h4 : a1 123 = a 123) (c0 : i1 640 = i 640) (c1 : i1 643 = i 643) (c2 : i1 6400 = i 6400) (c3 : i1 6403 = i 6403) (c4 : a1 11 = a 11) (c5 : a1 12 = a 12) (c6 : a1 101 = a 101) (c7 : a1 102 = a 102) : kLaw i1 a1 r1 := by
  unfold kLaw wl at h ⊢
  rw [er, e0, e1, h1, h2, h3, h4]
  rcases hr.1 with ⟨hz, _⟩ | ⟨hz, _⟩
  · rw [hz] at h ⊢
    rw [show i1 (64 * 10) = i (64 * 10) from c0, show i1 (64 * 10 + 3) = i (64 * 10 + 3) from c1, show a1 (10 + 1) = a (10 + 1) from c4, show a1 (10 + 2) = a (10 + 2) from c5]
    exact h
  · rw [hz] at h ⊢
    rw [show i1 (64 * 100) = i (64 * 100) from c2, show i1 (64 * 100 + 3) = i (64 * 100 + 3) from c3, show a1 (100 + 1) = a (100 + 1) from c6, show a1 (100 + 2) = a (100 + 2) from c7]
    exact h
theorem kLaw_fr (g : kG w i a q r i1 a1 q1 r1) (f : kUn w [7431, 7432, 640, 643, 6400, 6403] [120, 121, 122, 123, 11, 12, 101, 102] [0] = true) (hr : kr r) (h : kLaw i a r) : kLaw i1 a1 r1 := by
  obtain ⟨f1, f2, f3⟩ := kUn_all f
  exact kLaw_of hr h (g.fr 0 (f3 0 (by decide))) (g.fi _ (f1 _ (by decide))) (g.fi _ (f1 _ (by decide))) (g.fa _ (f2 _ (by decide))) (g.fa _ (f2 _ (by decide))) (g.fa _ (f2 _ (by decide))) (g.fa _ (f2 _ (by decide))) (g.fi _ (f1 _ (by decide))) (g.fi _ (f1 _ (by decide))) (g.fi _ (f1 _ (by decide))) (g.fi _ (f1 _ (by decide))) (g.fa _ (f2 _ (by decide))) (g.fa _ (f2 _ (by decide))) (g.fa _ (f2 _ (by decide))) (g.fa _ (f2 _ (by decide)))
/-- a method that leaves the market as it is -/
theorem kMar_fr (g : kG w i a q r i1 a1 q1 r1) (f : (kUn w [64, 70, 71, 72, 73, 450, 5700, 5701, 7424, 7427, 7452, 7453, 2, 7448, 1600, 1608, 1609, 1986, 7449, 7431, 7432, 640, 643, 6400, 6403] [2, 3, 4, 5, 6, 8, 9, 14, 26, 30, 32, 33, 38, 90, 91, 92, 93, 11, 12, 101, 102, 120, 121, 122, 123, 130, 131, 132, 133] [0]) = true) (e118 : a1 118 = a 118) (e117 : a1 117 = a 117) (e26 : i1 7426 = i 7426) (hr : kr r) (h : kMar i a r) : kMar i1 a1 r1 := by
  obtain ⟨f1, f2, f3⟩ := kUn_all f
  have F : ∀ k, k ∈ [64, 70, 71, 72, 73, 450, 5700, 5701, 7424, 7427, 7452, 7453, 2, 7448, 1600, 1608, 1609, 1986, 7449, 7431, 7432, 640, 643, 6400, 6403] → i1 k = i k := fun k hk => g.fi k (f1 k hk)
  have A : ∀ k, k ∈ [2, 3, 4, 5, 6, 8, 9, 14, 26, 30, 32, 33, 38, 90, 91, 92, 93, 11, 12, 101, 102, 120, 121, 122, 123, 130, 131, 132, 133] → a1 k = a k := fun k hk => g.fa k (f2 k hk)
  obtain ⟨h1, h2, h3, h4, h5, h6, h7, h8⟩ := h
  refine ⟨?_, ?_, ?_, ?_, ?_, ?_, kLaw_of hr h7 (g.fr 0 (f3 0 (by decide))) (F _ (by decide)) (F _ (by decide)) (A _ (by decide)) (A _ (by decide)) (A _ (by decide)) (A _ (by decide)) (F _ (by decide)) (F _ (by decide)) (F _ (by decide)) (F _ (by decide)) (A _ (by decide)) (A _ (by decide)) (A _ (by decide)) (A _ (by decide)), ?_⟩
  · rw [F 64 (by decide), F 7424 (by decide)]; exact h1
  · unfold kMk; rw [F 64 (by decide), F 72 (by decide), F 73 (by decide), F 450 (by decide), A 2 (by decide), A 6 (by decide), A 8 (by decide), A 9 (by decide), e118]; exact h2
  · unfold kNr; rw [F 70 (by decide), F 71 (by decide), F 72 (by decide), F 7427 (by decide), e26, A 2 (by decide), A 3 (by decide), A 4 (by decide), A 5 (by decide), e118, e117]; exact h3
  · unfold kGr; rw [F 64 (by decide), F 5700 (by decide), F 5701 (by decide), F 7452 (by decide), F 7453 (by decide), A 90 (by decide), A 91 (by decide), A 92 (by decide), A 93 (by decide), A 133 (by decide)]; exact h4
  · rw [A 14 (by decide), A 130 (by decide)]; exact h5
  · unfold kZe; rw [F 64 (by decide), e118, e117]; exact h6
  · unfold kIm; rw [F 2 (by decide), F 7448 (by decide), F 64 (by decide), F 1600 (by decide), F 1608 (by decide), F 1609 (by decide), F 1986 (by decide), F 7449 (by decide), A 26 (by decide), A 30 (by decide), A 32 (by decide), A 33 (by decide), A 38 (by decide), A 131 (by decide), A 132 (by decide)]; exact h8
theorem kI_64 (hI : kI i a q) : 0 ≤ (i 64).toInt ∧ (i 64).toInt ≤ 8 := hI.1 64
theorem kI_450 (hI : kI i a q) : 0 ≤ (i 450).toInt ∧ (i 450).toInt ≤ 5 := hI.1 450
theorem kI_3rd (hI : kI i a q) : 1 ≤ (i 7426).toInt ∧ (i 7426).toInt ≤ 5 := hI.1 7426
theorem ix_16 {x : Int32} (h0 : 0 ≤ x.toInt) (h8 : x.toInt < 8) : (16 + x).toNatClampNeg = 16 + x.toNatClampNeg ∧ (8 + x).toNatClampNeg = 8 + x.toNatClampNeg ∧ (10 + x).toNatClampNeg = 10 + x.toNatClampNeg := by
  have k16 : (16 : Int32).toInt = 16 := by decide
  have k8 : (8 : Int32).toInt = 8 := by decide
  have k10 : (10 : Int32).toInt = 10 := by decide
  have e1 : (16 + x).toInt = (16 : Int32).toInt + x.toInt := kd_add (by omega) (by omega)
  have e2 : (8 + x).toInt = (8 : Int32).toInt + x.toInt := kd_add (by omega) (by omega)
  have e3 : (10 + x).toInt = (10 : Int32).toInt + x.toInt := kd_add (by omega) (by omega)
  have t0 := Int32.toNat_toInt x
  have t1 := Int32.toNat_toInt (16 + x)
  have t2 := Int32.toNat_toInt (8 + x)
  have t3 := Int32.toNat_toInt (10 + x)
  omega
/-- he is a dog that doesn't count: alike -/
theorem dog_eq (hN : kNr i a) {x : Int32} (h0 : 0 ≤ x.toInt) (h8 : x.toInt < 8) : (a 5).getD x.toNatClampNeg 0 = (a 117).getD (16 + x).toNatClampNeg 0 ∧ i 71 = i 7427 := by
  have t0 := Int32.toNat_toInt x
  exact ⟨by rw [(ix_16 h0 h8).1]; exact (hN.2.1 x.toNatClampNeg (by omega)).2.2, hN.2.2.2.1⟩
/-- payments of the class's own market and of the reference -/
theorem mP_start (hI : kI i a q) (h : kMk i a) {la : Int32} : mP (i 64) ((a 14).getD 2 0 - la) (a 14) (a 6) (i 72) (i 73) (cT0 1 i a) (a 118, 8, 0, la, a 141) := by
  refine ⟨h, rfl, rfl, ?_, fun j _ => rfl, ⟨kl_8 hI, kl_9 hI, kl_2 hI, kl_14 hI, fun u hu => ?_⟩, kl_118 hI, kl_141 hI⟩
  · show (a 14).getD 2 0 = (a 14).getD 2 0 - la + la
    rw [Int32.sub_add_cancel]
  · show (cRow 1 a u).length = 8
    rw [cRow_lt hu]
    match u, hu with
    | 0, _ => exact kl_16 hI
    | 1, _ => exact kl_17 hI
    | 2, _ => exact kl_18 hI
    | 3, _ => exact kl_19 hI
    | 4, _ => exact kl_20 hI
    | 5, _ => exact kl_21 hI
    | 6, _ => exact kl_22 hI
    | 7, _ => exact kl_23 hI
/-- for how much he buys: alike -/
theorem buy_eq {p x : Int32} (hI : kI i a q) (hr : kr r) (hN : kNr i a) (hM : kMk i a) (hL : kLaw i a r) (h0 : 0 ≤ x.toInt) (h8 : x.toInt < 8) {N1 : List Int32} (e9 : N1.getD 9 0 = i 73) (e10 : N1.getD (10 + x.toNatClampNeg) 0 = (a 6).getD x.toNatClampNeg 0) (e8 : N1.getD 8 0 = i 72) (_ : p = p) :
    cBuyV (i (64 * r 0)) (a (r 0 + 1)) (a (r 0 + 2)) (a (r 0 + 3)) (i (64 * r 0 + 3)) ((a 3).getD x.toNatClampNeg 0) ((a 2).getD x.toNatClampNeg 0) ((a 4).getD x.toNatClampNeg 0) (i 73) ((a 6).getD x.toNatClampNeg 0) (i 72) = gBuy (i 7431) (a 120) (a 121) (a 122) (a 123) (i 7432) (a 117) (a 118) N1 x := by
  have t0 := Int32.toNat_toInt x
  obtain ⟨q1, q2, q3⟩ := ix_16 h0 h8
  obtain ⟨w1, w2, _⟩ := hN.2.1 x.toNatClampNeg (by omega)
  have w1 : (a 3).getD x.toNatClampNeg 0 = (a 117).getD x.toNatClampNeg 0 := w1
  have w2 : (a 4).getD x.toNatClampNeg 0 = (a 117).getD (8 + x.toNatClampNeg) 0 := w2
  have w3 : (a 2).getD x.toNatClampNeg 0 = (a 118).getD x.toNatClampNeg 0 := hM.1 _ (by omega)
  have hs : (a (r 0 + 3)).length = 121 := by
    rcases hr.1 with ⟨hz, _⟩ | ⟨hz, _⟩
    · rw [hz]; exact hI.2.1 13
    · rw [hz]; exact hI.2.1 103
  rw [kBuy_c (LV := wl i a) (fun z => hL.2 (by rw [← hL.1]; exact z)) hs]
  unfold gBuy
  rw [kBuy_r, hL.1, (by decide : (9 : Int32).toNatClampNeg = 9), (by decide : (8 : Int32).toNatClampNeg = 8), q2, q3, e8, e9, e10, w1, w2, w3]
  rfl
end RM
end
section
/-! THE STEPS THAT CHANGE THE MARKET -/
section SM
variable {i i1 i2 : Nat → Int32} {a a1 a2 : Nat → List Int32} {q q1 q2 : Nat → List Int64} {r r1 r2 : Nat → Nat} {u1 u2 x1 x2 x3 : Int32}
theorem nr_mk (hn : kMk i1 a1) (h : kNr i a) (e3 : a1 3 = a 3) (e4 : a1 4 = a 4) (e5 : a1 5 = a 5) (e117 : a1 117 = a 117) (e70 : i1 70 = i 70) (e71 : i1 71 = i 71) (e26 : i1 7426 = i 7426) (e27 : i1 7427 = i 7427) : kNr i1 a1 := by
  refine ⟨hn.1, ?_, ?_, ?_, hn.2.1⟩
  · dsimp only; rw [e3, e4, e5, e117]; exact h.2.1
  · dsimp only; rw [e70, e26]; exact h.2.2.1
  · dsimp only; rw [e71, e27]; exact h.2.2.2.1
theorem ze_mk (hn : kMk i1 a1) (h0 : kMk i a) (hz : kZe i a) (eb : i1 64 = i 64) (e117 : a1 117 = a 117) (hO : ∀ j : Nat, (i 64).toInt ≤ (j : Int) → j < 8 → (a1 6).getD j 0 = (a 6).getD j 0) : kZe i1 a1 := by
  intro j hj h8
  rw [eb] at hj
  obtain ⟨z1, z2⟩ := hz j hj h8
  refine ⟨?_, by rw [e117]; exact z2⟩
  rw [← hn.2.2.2.1 j h8, hO j hj h8, h0.2.2.2.1 j h8]
  exact z1
theorem led_come {L A T : List Int32} {pd la : Int32} (hL : A.length = 5) (hA : T.length = 5) (h2 : T.getD 2 0 = A.getD 2 0 - 0 + la) (hj : ∀ j : Nat, j ≠ 2 → T.getD j 0 = A.getD j 0) (_ : L = L) :
    ((T.set (0 : Int32).toNatClampNeg (T.getD (0 : Int32).toNatClampNeg 0 + 1)).set (1 : Int32).toNatClampNeg ((T.set (0 : Int32).toNatClampNeg (T.getD (0 : Int32).toNatClampNeg 0 + 1)).getD (1 : Int32).toNatClampNeg 0 + pd)) = (((A.set (0 : Int32).toNatClampNeg (A.getD (0 : Int32).toNatClampNeg 0 + 1)).set (1 : Int32).toNatClampNeg ((A.set (0 : Int32).toNatClampNeg (A.getD (0 : Int32).toNatClampNeg 0 + 1)).getD (1 : Int32).toNatClampNeg 0 + pd)).set (2 : Int32).toNatClampNeg (((A.set (0 : Int32).toNatClampNeg (A.getD (0 : Int32).toNatClampNeg 0 + 1)).set (1 : Int32).toNatClampNeg ((A.set (0 : Int32).toNatClampNeg (A.getD (0 : Int32).toNatClampNeg 0 + 1)).getD (1 : Int32).toNatClampNeg 0 + pd)).getD (2 : Int32).toNatClampNeg 0 + la)) := by
  rw [(by decide : (0 : Int32).toNatClampNeg = 0), (by decide : (1 : Int32).toNatClampNeg = 1), (by decide : (2 : Int32).toNatClampNeg = 2)]
  match A, T, hL, hA with
  | [b0, b1, b2, b3, b4], [t0, t1, t2, t3, t4], _, _ =>
    have e0 : t0 = b0 := hj 0 (by decide)
    have e1 : t1 = b1 := hj 1 (by decide)
    have e3 : t3 = b3 := hj 3 (by decide)
    have e4 : t4 = b4 := hj 4 (by decide)
    have e2 : t2 = b2 - 0 + la := h2
    subst e0
    subst e1
    subst e3
    subst e4
    subst e2
    show [t0 + 1, t1 + pd, b2 - 0 + la, t3, t4] = [t0 + 1, t1 + pd, b2 + la, t3, t4]
    rw [Int32.sub_zero]
theorem led_dog {A : List Int32} (hL : A.length = 5) : (((A.set (1 : Int32).toNatClampNeg (A.getD (1 : Int32).toNatClampNeg 0 + 0)).set (2 : Int32).toNatClampNeg ((A.set (1 : Int32).toNatClampNeg (A.getD (1 : Int32).toNatClampNeg 0 + 0)).getD (2 : Int32).toNatClampNeg 0 + 0))) = A := by
  rw [(by decide : (1 : Int32).toNatClampNeg = 1), (by decide : (2 : Int32).toNatClampNeg = 2)]
  match A, hL with
  | [b0, b1, b2, b3, b4], _ =>
    show [b0, b1 + 0, b2 + 0, b3, b4] = [b0, b1, b2, b3, b4]
    rw [Int32.add_zero, Int32.add_zero]
set_option maxHeartbeats 4000000 in
theorem st_come (K : kI i a q ∧ kr r) (h : kMar i a r) (g1 : kG yw102_0 i a q r i1 a1 q1 r1) (P1 : pt_ke102_0 x1 u1 i a q r i1 a1 q1 r1) (g2 : kG yw202_116 i1 a1 q1 r1 i2 a2 q2 r2) (P2 : pt_ke202_116 x1 u2 i1 a1 q1 r1 i2 a2 q2 r2) : kMar i2 a2 r2 ∧ u1 = u2 := by
  obtain ⟨hI, hr⟩ := K
  obtain ⟨h1, h2, h3, h4, h5, h6, h7, h8⟩ := h
  have cn := kCn_fr g2 (by decide +kernel) (kCn_fr g1 (by decide +kernel) h1)
  have gr := kGr_fr g2 (by decide +kernel) (kGr_fr g1 (by decide +kernel) h4)
  have lw := kLaw_fr g2 (by decide +kernel) g1.R (kLaw_fr g1 (by decide +kernel) hr h7)
  have im := kIm_fr g2 (by decide +kernel) (kIm_fr g1 (by decide +kernel) h8)
  have e3 : a2 3 = a 3 := (g2.fa 3 rfl).trans (g1.fa 3 rfl)
  have e4 : a2 4 = a 4 := (g2.fa 4 rfl).trans (g1.fa 4 rfl)
  have e5 : a2 5 = a 5 := (g2.fa 5 rfl).trans (g1.fa 5 rfl)
  have e117 : a2 117 = a 117 := (g2.fa 117 rfl).trans (g1.fa 117 rfl)
  have e64 : i2 64 = i 64 := (g2.fi 64 rfl).trans (g1.fi 64 rfl)
  have e70 : i2 70 = i 70 := (g2.fi 70 rfl).trans (g1.fi 70 rfl)
  have e71 : i2 71 = i 71 := (g2.fi 71 rfl).trans (g1.fi 71 rfl)
  have e72 : i2 72 = i 72 := (g2.fi 72 rfl).trans (g1.fi 72 rfl)
  have e26 : i2 7426 = i 7426 := (g2.fi 7426 rfl).trans (g1.fi 7426 rfl)
  have e27 : i2 7427 = i 7427 := (g2.fi 7427 rfl).trans (g1.fi 7427 rfl)
  have b8 := kI_64 hI
  have o5 := kI_450 hI
  have t5 := kI_3rd hI
  have P2 : pt_ke202_116 x1 u2 i a q r i2 a2 q2 r2 := by
    unfold pt_ke202_116 at P2 ⊢
    simp only [g1.fi 7424 rfl, g1.fi 7426 rfl, g1.fi 7427 rfl, g1.fi 7431 rfl, g1.fi 7432 rfl, g1.fa 117 rfl, g1.fa 118 rfl, g1.fa 120 rfl, g1.fa 121 rfl, g1.fa 122 rfl, g1.fa 123 rfl, g1.fa 130 rfl, g1.fa 141 rfl] at P2
    exact P2
  -- where nothing changes
  have same : i1 450 = i 450 → a1 8 = a 8 → a1 9 = a 9 → a1 2 = a 2 → i1 73 = i 73 → a1 6 = a 6 → a1 14 = a 14 → a2 118 = a 118 → a2 130 = a 130 → kMar i2 a2 r2 := by
    intro s1 s2 s3 s4 s5 s6 s7 s8 s9
    have mk : kMk i2 a2 := by
      unfold kMk
      rw [e64, e72, g2.fi 73 rfl, g2.fi 450 rfl, g2.fa 2 rfl, g2.fa 6 rfl, g2.fa 8 rfl, g2.fa 9 rfl, s1, s2, s3, s4, s5, s6, s8]
      exact h2
    refine ⟨cn, mk, nr_mk mk h3 e3 e4 e5 e117 e70 e71 e26 e27, gr, ?_, ze_mk mk h2 h6 e64 e117 (fun j _ _ => by rw [g2.fa 6 rfl, s6]), lw, im⟩
    rw [g2.fa 14 rfl, s7, s9]
    exact h5
  by_cases hb : 0 ≤ x1.toInt ∧ x1.toInt < (i 64).toInt
  · have hb2 : 0 ≤ x1.toInt ∧ x1.toInt < (i 7424).toInt := by rw [← h1]; exact hb
    obtain ⟨de, dg⟩ := dog_eq h3 hb.1 (by omega : x1.toInt < 8)
    by_cases hd : (i 71).toInt = 0 ∧ ((a 5).getD x1.toNatClampNeg 0).toInt = 1
    · have hn : ¬ (((0 : Int) ≤ x1.toInt) ∧ (x1.toInt < (i 64).toInt) ∧ (¬ (((i 71).toInt = 0) ∧ (((a 5).getD x1.toNatClampNeg 0).toInt = 1)))) := fun z => z.2.2 hd
      have hq1 : ((a 117).getD (16 + x1).toNatClampNeg 0).toInt = 1 := by rw [← de]; exact hd.2
      have hq2 : (i 7427).toInt = 0 := by rw [← dg]; exact hd.1
      obtain ⟨_, _, _, _, _, _, _, _, _, n1, n2, n3, n4, n5, n6, n7, vd, vn⟩ := P1
      obtain ⟨_, _, _, _, f1, f2, fv, _⟩ := P2
      refine ⟨same (n1 hn) (n2 hn) (n3 hn) (n4 hn) (n5 hn) (n6 hn) (n7 hn) (f1 ⟨hb2.1, hb2.2, hq1, hq2⟩) ((f2 ⟨hb2.1, hb2.2, hq1, hq2⟩).trans (led_dog (kl_130 hI))), ?_⟩
      rw [vd ⟨hb.1, hb.2, hd.1, hd.2⟩, fv ⟨hb2.1, hb2.2, hq1, hq2⟩]
    · have hC : ((0 : Int) ≤ x1.toInt) ∧ (x1.toInt < (i 64).toInt) ∧ (¬ (((i 71).toInt = 0) ∧ (((a 5).getD x1.toNatClampNeg 0).toInt = 1))) := ⟨hb.1, hb.2, hd⟩
      have hC2 : ((0 : Int) ≤ x1.toInt) ∧ (x1.toInt < (i 7424).toInt) ∧ (¬ ((((a 117).getD (16 + x1).toNatClampNeg 0).toInt = 1) ∧ ((i 7427).toInt = 0))) := ⟨hb2.1, hb2.2, fun z => hd ⟨by rw [dg]; exact z.2, by rw [de]; exact z.1⟩⟩
      have c1 := P1.2.1 hC
      have c2 := P1.2.2.1 hC
      have c3 := P1.2.2.2.1 hC
      have c4 := P1.2.2.2.2.1 hC
      have c5 := P1.2.2.2.2.2.1 hC
      have c6 := P1.2.2.2.2.2.2.1 hC
      have c7 := P1.2.2.2.2.2.2.2.1 hC
      have c8 := P1.2.2.2.2.2.2.2.2.1 hC
      have d1 := P2.2.1 hC2
      have d2 := P2.2.2.1 hC2
      have dv := P2.2.2.2.1 hC2
      clear P1 P2
      have t3 : i 70 = i 7426 := h3.2.2.1
      have op : i 450 = (a 118).getD 18 0 := mNow_18 h2
      have tb := Int32.toNat_toInt x1
      obtain ⟨p1, p2, _⟩ := paid_same (b := i 64) (c := x1) (t3 := i 7426) b8.2 hb.1 hb.2 t5.1 5 ((a 118).getD 18 0).toInt.toNat (cT0 1 i a) (a 118, 8, 0, 0, a 141) (mP_start hI h2 (la := 0)) (show (i 450).toInt ≤ 5 by omega) (show (i 450).toInt ≤ (((a 118).getD 18 0).toInt.toNat : Int) by rw [op] at o5 ⊢; omega) (show (i 450).toInt ≤ 5 by omega) (show 0 ≤ (i 450).toInt by omega)
      rw [t3] at c1 c2 c3 c4 c7 c8
      have eg : gPaid (i 7426) x1 (a 118) 0 (a 141) = sPaid (i 7426) x1 ((a 118).getD 18 0).toInt.toNat (a 118, 8, 0, 0, a 141) := rfl
      rw [eg] at d1 d2 dv
      generalize cPaid (i 64) (i 7426) x1 5 (cT0 1 i a) = T1 at *
      generalize sPaid (i 7426) x1 ((a 118).getD 18 0).toInt.toNat (a 118, 8, 0, 0, a 141) = S1 at *
      obtain ⟨m1, m2, m3, m4, m5, ⟨l1, l2, l3, l4, l5⟩, m7, m8⟩ := p1
      have be := buy_eq (p := 0) (x := x1) hI hr h3 h2 h7 hb.1 (by omega) (N1 := S1.1) m1.2.2.1.symm (m1.2.2.2.1 x1.toNatClampNeg (by omega)).symm m1.2.1.symm rfl
      rw [be] at c3
      obtain ⟨z1, z2, z3⟩ := come_now (bu := gBuy (i 7431) (a 120) (a 121) (a 122) (a 123) (i 7432) (a 117) (a 118) S1.1 x1) m1 b8.2 hb.1 hb.2 p2.2 (by omega) (kl_6 hI) l1 l2 m7
      have mk : kMk i2 a2 := by
        unfold kMk
        rw [e64, e72, g2.fi 73 rfl, g2.fi 450 rfl, g2.fa 2 rfl, g2.fa 6 rfl, g2.fa 8 rfl, g2.fa 9 rfl, c1, c2, c3, c4, c5, c6, d1]
        exact z1
      refine ⟨⟨cn, mk, nr_mk mk h3 e3 e4 e5 e117 e70 e71 e26 e27, gr, ?_, ze_mk mk h2 h6 e64 e117 (fun j hj h8 => ?_), lw, im⟩, ?_⟩
      · rw [g2.fa 14 rfl, c7, d2, ← h5, m3]
        exact led_come (L := []) (kl_14 hI) l4 m4 m5 rfl
      · rw [g2.fa 6 rfl, c6, kset_gI (by rw [kl_6 hI]; omega), if_neg (by omega)]
      · rw [c8, dv]; exact m3
  · have hb2 : ¬ (0 ≤ x1.toInt ∧ x1.toInt < (i 7424).toInt) := by rw [← h1]; exact hb
    have hn : ¬ (((0 : Int) ≤ x1.toInt) ∧ (x1.toInt < (i 64).toInt) ∧ (¬ (((i 71).toInt = 0) ∧ (((a 5).getD x1.toNatClampNeg 0).toInt = 1)))) := fun z => hb ⟨z.1, z.2.1⟩
    obtain ⟨_, _, _, _, _, _, _, _, _, n1, n2, n3, n4, n5, n6, n7, vd, vn⟩ := P1
    obtain ⟨_, _, _, _, _, _, _, k1, k2, kv⟩ := P2
    refine ⟨same (n1 hn) (n2 hn) (n3 hn) (n4 hn) (n5 hn) (n6 hn) (n7 hn) (k1 hb2) (k2 hb2), ?_⟩
    rw [vn hb, kv hb2]
end SM
end
section
section SM
variable {i i1 i2 : Nat → Int32} {a a1 a2 : Nat → List Int32} {q q1 q2 : Nat → List Int64} {r r1 r2 : Nat → Nat} {u1 u2 x1 x2 x3 : Int32}
set_option maxHeartbeats 4000000 in
theorem st_even (K : kI i a q ∧ kr r) (h : kMar i a r) (g1 : kG yw103_0 i a q r i1 a1 q1 r1) (P1 : pt_ke103_0 u1 i a q r i1 a1 q1 r1) (g2 : kG yw203_116 i1 a1 q1 r1 i2 a2 q2 r2) (P2 : pt_ke203_116 u2 i1 a1 q1 r1 i2 a2 q2 r2) : kMar i2 a2 r2 ∧ u1 = u2 := by
  obtain ⟨hI, hr⟩ := K
  obtain ⟨h1, h2, h3, h4, h5, h6, h7, h8⟩ := h
  have e64 : i2 64 = i 64 := (g2.fi 64 rfl).trans (g1.fi 64 rfl)
  have e117 : a2 117 = a 117 := (g2.fa 117 rfl).trans (g1.fa 117 rfl)
  unfold pt_ke203_116 at P2
  simp only [g1.fa 118 rfl, g1.fa 130 rfl] at P2
  obtain ⟨_, c1, c2, c3, c4, c5⟩ := P1
  obtain ⟨_, d1, d2, d3⟩ := P2
  obtain ⟨z1, z2⟩ := ends_now h2 (kl_118 hI)
  have mk : kMk i2 a2 := by
    unfold kMk
    rw [e64, g2.fi 72 rfl, g2.fi 73 rfl, g2.fi 450 rfl, g1.fi 450 rfl, g2.fa 2 rfl, g1.fa 2 rfl, g2.fa 6 rfl, g2.fa 8 rfl, g1.fa 8 rfl, g2.fa 9 rfl, g1.fa 9 rfl, c1, c2, c3, d1]
    exact z1
  refine ⟨⟨kCn_fr g2 (by decide +kernel) (kCn_fr g1 (by decide +kernel) h1), mk, nr_mk mk h3 ((g2.fa 3 rfl).trans (g1.fa 3 rfl)) ((g2.fa 4 rfl).trans (g1.fa 4 rfl)) ((g2.fa 5 rfl).trans (g1.fa 5 rfl)) e117 ((g2.fi 70 rfl).trans (g1.fi 70 rfl)) ((g2.fi 71 rfl).trans (g1.fi 71 rfl)) ((g2.fi 7426 rfl).trans (g1.fi 7426 rfl)) ((g2.fi 7427 rfl).trans (g1.fi 7427 rfl)), kGr_fr g2 (by decide +kernel) (kGr_fr g1 (by decide +kernel) h4), ?_, ?_, kLaw_fr g2 (by decide +kernel) g1.R (kLaw_fr g1 (by decide +kernel) hr h7), kIm_fr g2 (by decide +kernel) (kIm_fr g1 (by decide +kernel) h8)⟩, ?_⟩
  · rw [g2.fa 14 rfl, c4, d2, h5]
  · intro j hj h8
    rw [e64] at hj
    refine ⟨?_, by rw [e117]; exact (h6 j hj h8).2⟩
    rw [← mk.2.2.2.1 j h8, g2.fa 6 rfl, c3, List.getD_eq_getElem?_getD, List.getElem?_replicate, if_pos h8]
    rfl
  · rw [c5, d3, (by decide : (8 : Int32).toNatClampNeg = 8)]
    exact z1.2.1
end SM
end
section
section SM
variable {i i1 i2 : Nat → Int32} {a a1 a2 : Nat → List Int32} {q q1 q2 : Nat → List Int64} {r r1 r2 : Nat → Nat} {u1 u2 x1 x2 x3 : Int32}
set_option maxHeartbeats 4000000 in
theorem st_give (K : kI i a q ∧ kr r) (h : kMar i a r) (g1 : kG yw104_0 i a q r i1 a1 q1 r1) (P1 : pt_ke104_0 x1 x2 x3 u1 i a q r i1 a1 q1 r1) (g2 : kG yw204_116 i1 a1 q1 r1 i2 a2 q2 r2) (P2 : pt_ke204_116 x1 x2 x3 u2 i1 a1 q1 r1 i2 a2 q2 r2) : kMar i2 a2 r2 ∧ u1 = u2 := by
  obtain ⟨hI, hr⟩ := K
  obtain ⟨h1, h2, h3, h4, h5, h6, h7, h8⟩ := h
  have b8 := kI_64 hI
  have tx := Int32.toNat_toInt x1
  have P2 : pt_ke204_116 x1 x2 x3 u2 i a q r i2 a2 q2 r2 := by
    unfold pt_ke204_116 at P2 ⊢
    simp only [g1.fi 7424 rfl, g1.fa 118 rfl, g1.fa 130 rfl] at P2
    exact P2
  have e64 : i2 64 = i 64 := (g2.fi 64 rfl).trans (g1.fi 64 rfl)
  have e117 : a2 117 = a 117 := (g2.fa 117 rfl).trans (g1.fa 117 rfl)
  have fin : kMk i2 a2 → a2 14 = a2 130 → kMar i2 a2 r2 := fun mk ld => ⟨kCn_fr g2 (by decide +kernel) (kCn_fr g1 (by decide +kernel) h1), mk, nr_mk mk h3 ((g2.fa 3 rfl).trans (g1.fa 3 rfl)) ((g2.fa 4 rfl).trans (g1.fa 4 rfl)) ((g2.fa 5 rfl).trans (g1.fa 5 rfl)) e117 ((g2.fi 70 rfl).trans (g1.fi 70 rfl)) ((g2.fi 71 rfl).trans (g1.fi 71 rfl)) ((g2.fi 7426 rfl).trans (g1.fi 7426 rfl)) ((g2.fi 7427 rfl).trans (g1.fi 7427 rfl)), kGr_fr g2 (by decide +kernel) (kGr_fr g1 (by decide +kernel) h4), ld, ze_mk mk h2 h6 e64 e117 (fun j _ _ => by rw [g2.fa 6 rfl, g1.fa 6 rfl]), kLaw_fr g2 (by decide +kernel) g1.R (kLaw_fr g1 (by decide +kernel) hr h7), kIm_fr g2 (by decide +kernel) (kIm_fr g1 (by decide +kernel) h8)⟩
  have mkk : ∀ {A B : List Int32}, a1 2 = A → a2 118 = B → mNow (i 64) A (a 6) (i 72) (i 73) (i 450) (a 8) (a 9) B → kMk i2 a2 := by
    intro A B eA eB hm
    unfold kMk
    rw [e64, g2.fi 72 rfl, g1.fi 72 rfl, g2.fi 73 rfl, g1.fi 73 rfl, g2.fi 450 rfl, g1.fi 450 rfl, g2.fa 2 rfl, g2.fa 6 rfl, g1.fa 6 rfl, g2.fa 8 rfl, g1.fa 8 rfl, g2.fa 9 rfl, g1.fa 9 rfl, eA, eB]
    exact hm
  by_cases hA : ((0 : Int) ≤ x1.toInt) ∧ (x1.toInt < (i 64).toInt) ∧ ((0 : Int) ≤ x2.toInt) ∧ (x2.toInt < (i 64).toInt) ∧ (x1.toInt ≠ x2.toInt) ∧ ((1 : Int) ≤ x3.toInt) ∧ (x3.toInt ≤ 999)
  · obtain ⟨y1, y2, y3, y4, y5, y6, y7⟩ := hA
    have w2 : x1.toInt < (i 7424).toInt := by rw [← h1]; exact y2
    have w4 : x2.toInt < (i 7424).toInt := by rw [← h1]; exact y4
    have pe : (a 2).getD x1.toNatClampNeg 0 = (a 118).getD x1.toNatClampNeg 0 := h2.1 _ (by omega)
    by_cases hp : x3.toInt ≤ ((a 2).getD x1.toNatClampNeg 0).toInt
    · have hp2 : x3.toInt ≤ ((a 118).getD x1.toNatClampNeg 0).toInt := by rw [← pe]; exact hp
      have gi := gift_now (v := x3) h2 b8.2 ⟨y1, y2⟩ ⟨y3, y4⟩ (kl_2 hI) (kl_118 hI)
      have gi1 := gi.1 x1.toNatClampNeg (by omega)
      refine ⟨fin (mkk (P1.2.1 ⟨y1, y2, y3, y4, y5, y6, y7, hp⟩) (P2.2.1 ⟨y1, w2, y3, w4, y5, y6, y7, hp2⟩) gi) ?_, ?_⟩
      · rw [g2.fa 14 rfl, P1.2.2.1 ⟨y1, y2, y3, y4, y5, y6, y7, hp⟩, P2.2.2.1 ⟨y1, w2, y3, w4, y5, y6, y7, hp2⟩, h5]
      · rw [P1.2.2.2.1 ⟨y1, y2, y3, y4, y5, y6, y7, hp⟩, P2.2.2.2.1 ⟨y1, w2, y3, w4, y5, y6, y7, hp2⟩]
        exact gi1
    · have hp2 : ¬ (x3.toInt ≤ ((a 118).getD x1.toNatClampNeg 0).toInt) := by rw [← pe]; exact hp
      refine ⟨fin (mkk (P1.2.2.2.2.1 (fun z => hp z.2.2.2.2.2.2.2)) (P2.2.2.2.2.1 (fun z => hp2 z.2.2.2.2.2.2.2)) h2) ?_, ?_⟩
      · rw [g2.fa 14 rfl, P1.2.2.2.2.2.1 (fun z => hp z.2.2.2.2.2.2.2), P2.2.2.2.2.2.1 (fun z => hp2 z.2.2.2.2.2.2.2), h5]
      · rw [P1.2.2.2.2.2.2.1 ⟨y1, y2, y3, y4, y5, y6, y7, Int.not_le.mp hp⟩, P2.2.2.2.2.2.2.1 ⟨y1, w2, y3, w4, y5, y6, y7, Int.not_le.mp hp2⟩]
  · have hA2 : ¬ (((0 : Int) ≤ x1.toInt) ∧ (x1.toInt < (i 7424).toInt) ∧ ((0 : Int) ≤ x2.toInt) ∧ (x2.toInt < (i 7424).toInt) ∧ (x1.toInt ≠ x2.toInt) ∧ ((1 : Int) ≤ x3.toInt) ∧ (x3.toInt ≤ 999)) := by rw [← h1]; exact hA
    refine ⟨fin (mkk (P1.2.2.2.2.1 (fun z => hA ⟨z.1, z.2.1, z.2.2.1, z.2.2.2.1, z.2.2.2.2.1, z.2.2.2.2.2.1, z.2.2.2.2.2.2.1⟩)) (P2.2.2.2.2.1 (fun z => hA2 ⟨z.1, z.2.1, z.2.2.1, z.2.2.2.1, z.2.2.2.2.1, z.2.2.2.2.2.1, z.2.2.2.2.2.2.1⟩)) h2) ?_, ?_⟩
    · rw [g2.fa 14 rfl, P1.2.2.2.2.2.1 (fun z => hA ⟨z.1, z.2.1, z.2.2.1, z.2.2.2.1, z.2.2.2.2.1, z.2.2.2.2.2.1, z.2.2.2.2.2.2.1⟩), P2.2.2.2.2.2.1 (fun z => hA2 ⟨z.1, z.2.1, z.2.2.1, z.2.2.2.1, z.2.2.2.2.1, z.2.2.2.2.2.1, z.2.2.2.2.2.2.1⟩), h5]
    · rw [P1.2.2.2.2.2.2.2 hA, P2.2.2.2.2.2.2.2 hA2]
end SM
end
section
/-! IMAGES, MENDED NUMBERS, NEW BUYERS; WHAT IS TOLD -/
theorem clamp8 {x : Int32} (h0 : 0 ≤ x.toInt) (h8 : x.toInt ≤ 8) : sMx 0 (sMn x 8) = x := by
  have k0 : (0 : Int32).toInt = 0 := by decide
  have k8 : (8 : Int32).toInt = 8 := by decide
  have e1 : sMn x 8 = x := by
    unfold sMn
    by_cases c : (8 : Int32) < x
    · have := Int32.lt_iff_toInt_lt.mp c
      omega
    · rw [decide_eq_false c]
      rfl
  rw [e1]
  unfold sMx
  by_cases c : (0 : Int32) < x
  · rw [decide_eq_true c]
    rfl
  · rw [decide_eq_false c]
    exact kj_v (by
      have : ¬ ((0 : Int32).toInt < x.toInt) := fun z => c (Int32.lt_iff_toInt_lt.mpr z)
      show (0 : Int32).toInt = x.toInt
      omega)
theorem cpy_pre {l g : List Int32} {n j : Nat} (hl : n ≤ l.length) (hg : n ≤ g.length) : (mi_cpy l g 0 0 n).getD j 0 = if j < n then l.getD j 0 else g.getD j 0 := by
  rw [cpy_g (by omega) (by omega)]
  by_cases c : j < n
  · rw [if_pos (by omega), if_pos c, show 0 + (j - 0) = j by omega]
  · rw [if_neg (by omega), if_neg c]
theorem cpy_all {l g : List Int32} {n : Nat} (hl : l.length = n) (hg : g.length = n) : mi_cpy l g 0 0 n = l :=
  kListn (n := n) (by rw [mi_cpy_len (by omega) (by omega)]; exact hg) hl (fun j hj => by rw [cpy_pre (by omega) (by omega), if_pos hj])
theorem k5N : (5 : Int32).toNatClampNeg = 5 := by decide
theorem k0N : (0 : Int32).toNatClampNeg = 0 := by decide
theorem mk_mend {b dy dy1 cm op : Int32} {P P1 O Wh Mu N N1 : List Int32} (h : mNow b P O dy cm op Wh Mu N) (hp : ∀ j : Nat, j < 8 → P1.getD j 0 = N1.getD j 0) (hd : dy1 = N1.getD 8 0) (hk : ∀ j : Nat, 9 ≤ j → N1.getD j 0 = N.getD j 0) : mNow b P1 O dy1 cm op Wh Mu N1 := by
  obtain ⟨g1, g2, g3, g4, g5, g6⟩ := h
  exact ⟨hp, hd, by rw [hk 9 (by omega)]; exact g3, fun j hj => by rw [hk (10 + j) (by omega)]; exact g4 j hj, by rw [hk 18 (by omega)]; exact g5, fun j hj => by rw [hk (19 + j) (by omega), hk (25 + j) (by omega)]; exact g6 j hj⟩
/-- a buyer more -/
theorem add_mk {b b1 pu dy cm op : Int32} {P O Wh Mu N : List Int32} (h : mNow b P O dy cm op Wh Mu N) (hz : ∀ j : Nat, b.toInt ≤ (j : Int) → j < 8 → N.getD (10 + j) 0 = 0) (h0 : 0 ≤ b.toInt) (h8 : b.toInt < 8) (e1 : b1.toInt = b.toInt + 1) (hP : P.length = 8) (hO : O.length = 8) (hN : N.length = 31) : mNow b1 (P.set b.toNatClampNeg pu) (O.set b.toNatClampNeg 0) dy cm op Wh Mu (N.set b.toNatClampNeg pu) := by
  have tb := Int32.toNat_toInt b
  obtain ⟨g1, g2, g3, g4, g5, g6⟩ := h
  have G : ∀ j : Nat, (N.set b.toNatClampNeg pu).getD j 0 = if j = b.toNatClampNeg then pu else N.getD j 0 := fun j => kset_gI (by omega)
  refine ⟨fun j hj => ?_, by rw [G, if_neg (by omega)]; exact g2, by rw [G, if_neg (by omega)]; exact g3, fun j hj => ?_, by rw [G, if_neg (by omega)]; exact g5, fun j hj => ?_⟩
  · rw [G, kset_gI (by omega), g1 j hj]
  · rw [G, if_neg (by omega), kset_gI (by omega)]
    by_cases c : j = b.toNatClampNeg
    · rw [if_pos c, hz j (by omega) hj]
    · rw [if_neg c]; exact g4 j hj
  · rw [G, G, if_neg (by omega), if_neg (by omega)]
    obtain ⟨q1, q2, q3, q4⟩ := g6 j hj
    exact ⟨q1, q2, q3, by omega⟩
theorem add_nr {b pu w h0 t g dy t1 g1 : Int32} {P W H D N Y : List Int32} (h : nRel (P, W, H, D, t, g, dy) (N, Y, t1, g1)) (hz : ∀ j : Nat, b.toInt ≤ (j : Int) → j < 8 → Y.getD (16 + j) 0 = 0) (hb0 : 0 ≤ b.toInt) (h8 : b.toInt < 8) (lP : P.length = 8) (lW : W.length = 8) (lH : H.length = 8) (lD : D.length = 8) (lN : N.length = 31) (lY : Y.length = 24) : nRel (P.set b.toNatClampNeg pu, W.set b.toNatClampNeg w, H.set b.toNatClampNeg h0, D.set b.toNatClampNeg 0, t, g, dy) (N.set b.toNatClampNeg pu, (Y.set b.toNatClampNeg w).set (8 + b).toNatClampNeg h0, t1, g1) := by
  have tb := Int32.toNat_toInt b
  obtain ⟨_, i8, _⟩ := ix_16 hb0 h8
  obtain ⟨g1, g2, g3, g4, g5⟩ := h
  dsimp only at g1 g2 g3 g4 g5
  refine ⟨fun j hj => ?_, fun j hj => ?_, g3, g4, ?_⟩
  · dsimp only; rw [kset_gI (by omega), kset_gI (by omega), g1 j hj]
  · dsimp only
    obtain ⟨q1, q2, q3⟩ := g2 j hj
    rw [i8]
    have GW : (W.set b.toNatClampNeg w).getD j 0 = if j = b.toNatClampNeg then w else W.getD j 0 := kset_gI (by omega)
    have GH : (H.set b.toNatClampNeg h0).getD j 0 = if j = b.toNatClampNeg then h0 else H.getD j 0 := kset_gI (by omega)
    have GD : (D.set b.toNatClampNeg 0).getD j 0 = if j = b.toNatClampNeg then 0 else D.getD j 0 := kset_gI (by omega)
    have G : ∀ m : Nat, ((Y.set b.toNatClampNeg w).set (8 + b.toNatClampNeg) h0).getD m 0 = if m = 8 + b.toNatClampNeg then h0 else if m = b.toNatClampNeg then w else Y.getD m 0 := fun m => by rw [kset_gI (by rw [List.length_set]; omega), kset_gI (by omega)]
    rw [GW, GH, GD, G, G, G, q1, q2, q3]
    refine ⟨?_, ?_, ?_⟩
    · (repeat' split) <;> first | rfl | (exfalso; omega)
    · (repeat' split) <;> first | rfl | (exfalso; omega)
    · by_cases c : j = b.toNatClampNeg
      · rw [if_pos c, if_neg (by omega), if_neg (by omega), hz j (by omega) hj]
      · rw [if_neg c, if_neg (by omega), if_neg (by omega)]
  · dsimp only; rw [kset_gI (by omega), if_neg (by omega)]; exact g5
theorem add_ze {b b1 pu w h0 : Int32} {N Y : List Int32} (hz : ∀ j : Nat, b.toInt ≤ (j : Int) → j < 8 → N.getD (10 + j) 0 = 0 ∧ Y.getD (16 + j) 0 = 0) (hb0 : 0 ≤ b.toInt) (h8 : b.toInt < 8) (e1 : b1.toInt = b.toInt + 1) (lN : N.length = 31) (lY : Y.length = 24) : ∀ j : Nat, b1.toInt ≤ (j : Int) → j < 8 → (N.set b.toNatClampNeg pu).getD (10 + j) 0 = 0 ∧ ((Y.set b.toNatClampNeg w).set (8 + b).toNatClampNeg h0).getD (16 + j) 0 = 0 := by
  have tb := Int32.toNat_toInt b
  obtain ⟨_, i8, _⟩ := ix_16 hb0 h8
  intro j hj h8
  obtain ⟨q1, q2⟩ := hz j (by omega) h8
  rw [i8, kset_gI (by omega), if_neg (by omega), kset_gI (by rw [List.length_set]; omega), if_neg (by omega), kset_gI (by omega), if_neg (by omega)]
  exact ⟨q1, q2⟩
section SN
variable {i i1 i2 : Nat → Int32} {a a1 a2 : Nat → List Int32} {q q1 q2 : Nat → List Int64} {r r1 r2 : Nat → Nat} {u1 u2 x1 x2 x3 : Int32}
set_option maxHeartbeats 4000000 in
theorem st_img (K : kI i a q ∧ kr r) (h : kMar i a r) (g1 : kG yw106_0 i a q r i1 a1 q1 r1) (P1 : pt_ke106_0 u1 i a q r i1 a1 q1 r1) (g2 : kG yw206_116 i1 a1 q1 r1 i2 a2 q2 r2) (P2 : pt_ke206_116 u2 i1 a1 q1 r1 i2 a2 q2 r2) : kMar i2 a2 r2 ∧ u1 = u2 := by
  obtain ⟨hI, hr⟩ := K
  obtain ⟨h1, h2, h3, h4, h5, h6, h7, h8⟩ := h
  have b8 := kI_64 hI
  have t64 := Int32.toNat_toInt (i 64)
  unfold pt_ke206_116 at P2
  unfold pt_ke106_0 at P1
  rw [g1.fi 7424 rfl, g1.fa 118 rfl, g1.fa 130 rfl] at P2
  rw [clamp8 b8.1 b8.2, k0N, k5N] at P1
  obtain ⟨_, c1, c2, c3, c4, c5, c6, c7, c8, c9, c10, cv⟩ := P1
  obtain ⟨_, d1, d2, d3, d4, dv⟩ := P2
  refine ⟨⟨kCn_fr g2 (by decide +kernel) (kCn_fr g1 (by decide +kernel) h1), kMk_fr g2 (by decide +kernel) (kMk_fr g1 (by decide +kernel) h2), kNr_fr g2 (by decide +kernel) (kNr_fr g1 (by decide +kernel) h3), kGr_fr g2 (by decide +kernel) (kGr_fr g1 (by decide +kernel) h4), kLd_fr g2 (by decide +kernel) (kLd_fr g1 (by decide +kernel) h5), kZe_fr g2 (by decide +kernel) (kZe_fr g1 (by decide +kernel) h6), kLaw_fr g2 (by decide +kernel) g1.R (kLaw_fr g1 (by decide +kernel) hr h7), ?_, fun _ => ⟨?_, ?_, ?_, ?_⟩⟩, ?_⟩
  · rw [g2.fi 2 rfl, c10, d1]
  · rw [g2.fi 1600 rfl, c9, d2, h1]
  · rw [g2.fi 1600 rfl, c9, g2.fi 64 rfl, g1.fi 64 rfl]; exact Int.le_refl _
  · rw [g2.fi 1600 rfl, g2.fi 1608 rfl, g2.fi 1609 rfl, g2.fi 1986 rfl, g2.fa 26 rfl, g2.fa 30 rfl, g2.fa 32 rfl, g2.fa 33 rfl, c1, c2, c4, c5, c6, c7, c8, c9, d3, cpy_all (kl_8 hI) (kl_32 hI), cpy_all (kl_9 hI) (kl_33 hI)]
    obtain ⟨z1, z2, z3, z4, z5, z6⟩ := h2
    refine ⟨fun j hj => ?_, z2, z3, z5, z6⟩
    rw [cpy_pre (by rw [kl_2 hI]; omega) (by rw [kl_26 hI]; omega), cpy_pre (by rw [kl_6 hI]; omega) (by rw [kl_30 hI]; omega), if_pos (by omega), if_pos (by omega)]
    exact ⟨z1 j (by omega), z4 j (by omega)⟩
  · rw [g2.fa 38 rfl, c3, d4, cpy_all (kl_14 hI) (kl_38 hI), h5]
  · rw [cv, dv, h5, k0N]
end SN
end
section
section SN
variable {i i1 i2 : Nat → Int32} {a a1 a2 : Nat → List Int32} {q q1 q2 : Nat → List Int64} {r r1 r2 : Nat → Nat} {u1 u2 x1 x2 x3 : Int32}
set_option maxHeartbeats 4000000 in
theorem st_back (K : kI i a q ∧ kr r) (h : kMar i a r) (g1 : kG yw107_0 i a q r i1 a1 q1 r1) (P1 : pt_ke107_0 u1 i a q r i1 a1 q1 r1) (g2 : kG yw207_116 i1 a1 q1 r1 i2 a2 q2 r2) (P2 : pt_ke207_116 u2 i1 a1 q1 r1 i2 a2 q2 r2) : kMar i2 a2 r2 ∧ u1 = u2 := by
  obtain ⟨hI, hr⟩ := K
  obtain ⟨h1, h2, h3, h4, h5, h6, h7, h8⟩ := h
  have b8 := kI_64 hI
  have b8i : 0 ≤ (i 1600).toInt ∧ (i 1600).toInt ≤ 8 := hI.1 1600
  have t16 := Int32.toNat_toInt (i 1600)
  have e64 : i2 64 = i 64 := (g2.fi 64 rfl).trans (g1.fi 64 rfl)
  have e117 : a2 117 = a 117 := (g2.fa 117 rfl).trans (g1.fa 117 rfl)
  have P2 : pt_ke207_116 u2 i a q r i2 a2 q2 r2 := by
    unfold pt_ke207_116 at P2 ⊢
    simp only [g1.fi 7448 rfl, g1.fi 7449 rfl, g1.fa 118 rfl, g1.fa 130 rfl, g1.fa 131 rfl, g1.fa 132 rfl] at P2
    exact P2
  have fin : kMk i2 a2 → a2 14 = a2 130 → kZe i2 a2 → kMar i2 a2 r2 := fun mk ld ze => ⟨kCn_fr g2 (by decide +kernel) (kCn_fr g1 (by decide +kernel) h1), mk, nr_mk mk h3 ((g2.fa 3 rfl).trans (g1.fa 3 rfl)) ((g2.fa 4 rfl).trans (g1.fa 4 rfl)) ((g2.fa 5 rfl).trans (g1.fa 5 rfl)) e117 ((g2.fi 70 rfl).trans (g1.fi 70 rfl)) ((g2.fi 71 rfl).trans (g1.fi 71 rfl)) ((g2.fi 7426 rfl).trans (g1.fi 7426 rfl)) ((g2.fi 7427 rfl).trans (g1.fi 7427 rfl)), kGr_fr g2 (by decide +kernel) (kGr_fr g1 (by decide +kernel) h4), ld, ze, kLaw_fr g2 (by decide +kernel) g1.R (kLaw_fr g1 (by decide +kernel) hr h7), kIm_fr g2 (by decide +kernel) (kIm_fr g1 (by decide +kernel) h8)⟩
  by_cases ci : (i 2).toInt = 0
  · have ci2 : (i 7448).toInt = 0 := by rw [← h8.1]; exact ci
    obtain ⟨_, _, _, _, _, _, _, _, _, _, n1, n2, n3, n4, n5, n6, n7, n8, nv⟩ := P1
    obtain ⟨_, _, _, _, m1, m2, mv⟩ := P2
    have mk : kMk i2 a2 := by
      unfold kMk
      rw [e64, g2.fi 72 rfl, g2.fi 73 rfl, g2.fi 450 rfl, g2.fa 2 rfl, g2.fa 6 rfl, g2.fa 8 rfl, g2.fa 9 rfl, n1 ci, n2 ci, n4 ci, n5 ci, n6 ci, n7 ci, n8 ci, m1 ci2]
      exact h2
    refine ⟨fin mk ?_ (ze_mk mk h2 h6 e64 e117 (fun j _ _ => by rw [g2.fa 6 rfl, n2 ci])), ?_⟩
    · rw [g2.fa 14 rfl, n3 ci, m2 ci2, h5]
    · rw [nv ci, mv ci2]
  · have ci2 : (i 7448).toInt ≠ 0 := by rw [← h8.1]; exact ci
    obtain ⟨s1, s2, ⟨s3, s4, s5, s6, s7⟩, s8⟩ := h8.2 ci
    have c1 := P1.2.1 ci
    have c2 := P1.2.2.1 ci
    have c3 := P1.2.2.2.1 ci
    have c4 := P1.2.2.2.2.1 ci
    have c5 := P1.2.2.2.2.2.1 ci
    have c6 := P1.2.2.2.2.2.2.1 ci
    have c7 := P1.2.2.2.2.2.2.2.1 ci
    have c8 := P1.2.2.2.2.2.2.2.2.1 ci
    have cv := P1.2.2.2.2.2.2.2.2.2.1 ci
    have d1 := P2.2.1 ci2
    have d2 := P2.2.2.1 ci2
    have dv := P2.2.2.2.1 ci2
    rw [clamp8 b8i.1 b8i.2, k0N] at c1 c2
    rw [k0N, k5N] at c3 c6 c7 cv
    rw [cpy_all (kl_32 hI) (kl_8 hI)] at c6
    rw [cpy_all (kl_33 hI) (kl_9 hI)] at c7
    rw [cpy_all (kl_38 hI) (kl_14 hI)] at c3 cv
    rw [← s1] at d1
    have hS : ∀ j : Nat, j < 31 → ¬ rSince (i 1600) j → (rBk (i 1600) (a 118) (a 131)).getD j 0 = (a 131).getD j 0 := fun j hj hn => (rBk_g hj).2 hn
    have hY : ∀ j : Nat, j < 31 → rSince (i 1600) j → (rBk (i 1600) (a 118) (a 131)).getD j 0 = (a 118).getD j 0 := fun j hj hn => (rBk_g hj).1 hn
    have mk : kMk i2 a2 := by
      unfold kMk
      rw [e64, g2.fi 72 rfl, g2.fi 73 rfl, g2.fi 450 rfl, g2.fa 2 rfl, g2.fa 6 rfl, g2.fa 8 rfl, g2.fa 9 rfl, c1, c2, c4, c5, c6, c7, c8, d1]
      refine ⟨fun j hj => ?_, ?_, ?_, fun j hj => ?_, ?_, fun j hj => ?_⟩
      · rw [cpy_pre (by rw [kl_26 hI]; omega) (by rw [kl_2 hI]; omega)]
        by_cases c : j < (i 1600).toNatClampNeg
        · rw [if_pos c, hS j (by omega) (fun z => by unfold rSince at z; omega)]
          exact (s3 j (by omega)).1
        · rw [if_neg c, hY j (by omega) (Or.inl (by omega))]
          exact h2.1 j hj
      · rw [hS 8 (by omega) (fun z => by unfold rSince at z; omega)]; exact s4
      · rw [hS 9 (by omega) (fun z => by unfold rSince at z; omega)]; exact s5
      · rw [cpy_pre (by rw [kl_30 hI]; omega) (by rw [kl_6 hI]; omega)]
        by_cases c : j < (i 1600).toNatClampNeg
        · rw [if_pos c, hS (10 + j) (by omega) (fun z => by unfold rSince at z; omega)]
          exact (s3 j (by omega)).2
        · rw [if_neg c, hY (10 + j) (by omega) (Or.inr (by omega))]
          exact h2.2.2.2.1 j hj
      · rw [hS 18 (by omega) (fun z => by unfold rSince at z; omega)]; exact s6
      · have o5 : (i 1986).toInt ≤ 5 := (hI.1 1986).2
        rw [hS (19 + j) (by omega) (fun z => by unfold rSince at z; omega), hS (25 + j) (by omega) (fun z => by unfold rSince at z; omega)]
        obtain ⟨y1, y2, y3, y4⟩ := s7 j hj
        exact ⟨y1, y2, y3, by omega⟩
    refine ⟨fin mk ?_ ?_, ?_⟩
    · rw [g2.fa 14 rfl, c3, d2, s8]
    · intro j hj h8
      rw [e64] at hj
      obtain ⟨z1, z2⟩ := h6 j hj h8
      refine ⟨?_, by rw [e117]; exact z2⟩
      rw [d1, hY (10 + j) (by omega) (Or.inr (by omega))]
      exact z1
    · rw [cv, dv, s8, k0N]
end SN
end
section
section SN
variable {i i1 i2 : Nat → Int32} {a a1 a2 : Nat → List Int32} {q q1 q2 : Nat → List Int64} {r r1 r2 : Nat → Nat} {u1 u2 x1 x2 x3 : Int32}
theorem mn_fin {w1 w2 : kW} {X : Int32 × kNt × kCg} {Y : Int32 × kRt × kRg} (hr : kr r) (h : kMar i a r) (g1 : kG w1 i a q r i1 a1 q1 r1) (g2 : kG w2 i1 a1 q1 r1 i2 a2 q2 r2) (hX : mnRel (i 64) X Y) (hk : mnKeep (i 64) (a 118, a 117, i 7426, i 7427) Y)
    (f1 : kUn w1 [64, 7424, 73, 450, 7431, 7432, 640, 643, 6400, 6403, 2, 7448, 1600, 1608, 1609, 1986, 7449] [6, 8, 9, 14, 130, 120, 121, 122, 123, 11, 12, 101, 102, 26, 30, 32, 33, 38, 131, 132] [0] = true) (f2 : kUn w2 [64, 7424, 73, 450, 7431, 7432, 640, 643, 6400, 6403, 2, 7448, 1600, 1608, 1609, 1986, 7449] [6, 8, 9, 14, 130, 120, 121, 122, 123, 11, 12, 101, 102, 26, 30, 32, 33, 38, 131, 132] [0] = true)
    (c : (a2 2, a2 3, a2 4, a2 5, i2 70, i2 71, i2 72) = X.2.1) (d : (a2 118, a2 117, i2 7426, i2 7427) = Y.2.1) (e : (a2 90, a2 91, a2 92, a2 93, i2 5700, i2 5701) = X.2.2) (f : (a2 133, i2 7452, i2 7453) = Y.2.2) : kMar i2 a2 r2 := by
  obtain ⟨h1, h2, h3, h4, h5, h6, h7, h8⟩ := h
  obtain ⟨m1, m2, m3⟩ := hX
  obtain ⟨p1, p2, p3⟩ := kUn_all f1
  obtain ⟨s1, s2, s3⟩ := kUn_all f2
  have F : ∀ k, k ∈ [64, 7424, 73, 450, 7431, 7432, 640, 643, 6400, 6403, 2, 7448, 1600, 1608, 1609, 1986, 7449] → i2 k = i k := fun k hk => (g2.fi k (s1 k hk)).trans (g1.fi k (p1 k hk))
  have A : ∀ k, k ∈ [6, 8, 9, 14, 130, 120, 121, 122, 123, 11, 12, 101, 102, 26, 30, 32, 33, 38, 131, 132] → a2 k = a k := fun k hk => (g2.fa k (s2 k hk)).trans (g1.fa k (p2 k hk))
  have nr : kNr i2 a2 := by unfold kNr; rw [c, d]; exact m2
  obtain ⟨k1, k2⟩ := hk
  rw [← d] at k1 k2
  have mk : kMk i2 a2 := by
    unfold kMk
    rw [F 64 (by decide), F 73 (by decide), F 450 (by decide), A 6 (by decide), A 8 (by decide), A 9 (by decide)]
    exact mk_mend h2 nr.1 nr.2.2.2.2 k1
  refine ⟨?_, mk, nr, ?_, ?_, ?_, kLaw_of hr h7 ((g2.fr 0 (s3 0 (by decide))).trans (g1.fr 0 (p3 0 (by decide)))) (F _ (by decide)) (F _ (by decide)) (A _ (by decide)) (A _ (by decide)) (A _ (by decide)) (A _ (by decide)) (F _ (by decide)) (F _ (by decide)) (F _ (by decide)) (F _ (by decide)) (A _ (by decide)) (A _ (by decide)) (A _ (by decide)) (A _ (by decide)), ?_⟩
  · rw [F 64 (by decide), F 7424 (by decide)]; exact h1
  · unfold kGr; rw [F 64 (by decide), e, f]; exact m3
  · rw [A 14 (by decide), A 130 (by decide)]; exact h5
  · intro j hj h8
    rw [F 64 (by decide)] at hj
    obtain ⟨z1, z2⟩ := h6 j hj h8
    exact ⟨(k1 (10 + j) (by omega)).trans z1, (k2 j hj).trans z2⟩
  · unfold kIm; rw [F 2 (by decide), F 7448 (by decide), F 64 (by decide), F 1600 (by decide), F 1608 (by decide), F 1609 (by decide), F 1986 (by decide), F 7449 (by decide), A 26 (by decide), A 30 (by decide), A 32 (by decide), A 33 (by decide), A 38 (by decide), A 131 (by decide), A 132 (by decide)]; exact h8
theorem nl_of (hI : kI i a q) : nLen (a 2, a 3, a 4, a 5, i 70, i 71, i 72) (a 118, a 117, i 7426, i 7427) := ⟨kl_2 hI, kl_3 hI, kl_4 hI, kl_5 hI, kl_118 hI, kl_117 hI⟩
theorem gl_of (hI : kI i a q) : gLen (a 90, a 91, a 92, a 93, i 5700, i 5701) (a 133, i 7452, i 7453) := ⟨kl_90 hI, kl_91 hI, kl_92 hI, kl_93 hI, kl_133 hI⟩
theorem kT7 {A B C D E F G : Type} {a a1 : A} {b b1 : B} {c c1 : C} {d d1 : D} {e e1 : E} {f f1 : F} {g g1 : G} (h1 : a = a1) (h2 : b = b1) (h3 : c = c1) (h4 : d = d1) (h5 : e = e1) (h6 : f = f1) (h7 : g = g1) : (a, b, c, d, e, f, g) = (a1, b1, c1, d1, e1, f1, g1) := by subst h1; subst h2; subst h3; subst h4; subst h5; subst h6; subst h7; rfl
theorem kT6 {A B C D E F : Type} {a a1 : A} {b b1 : B} {c c1 : C} {d d1 : D} {e e1 : E} {f f1 : F} (h1 : a = a1) (h2 : b = b1) (h3 : c = c1) (h4 : d = d1) (h5 : e = e1) (h6 : f = f1) : (a, b, c, d, e, f) = (a1, b1, c1, d1, e1, f1) := by subst h1; subst h2; subst h3; subst h4; subst h5; subst h6; rfl
theorem kT4 {A B C D : Type} {a a1 : A} {b b1 : B} {c c1 : C} {d d1 : D} (h1 : a = a1) (h2 : b = b1) (h3 : c = c1) (h4 : d = d1) : (a, b, c, d) = (a1, b1, c1, d1) := by subst h1; subst h2; subst h3; subst h4; rfl
theorem kTT3 {A B C : Type} {a a1 : A} {b b1 : B} {c c1 : C} (h1 : a = a1) (h2 : b = b1) (h3 : c = c1) : (a, b, c) = (a1, b1, c1) := by subst h1; subst h2; subst h3; rfl
end SN
end
section
section SN
variable {i i1 i2 : Nat → Int32} {a a1 a2 : Nat → List Int32} {q q1 q2 : Nat → List Int64} {r r1 r2 : Nat → Nat} {u1 u2 x1 x2 x3 : Int32}
set_option maxHeartbeats 4000000 in
theorem st_mend (K : kI i a q ∧ kr r) (h : kMar i a r) (g1 : kG yw83_0 i a q r i1 a1 q1 r1) (P1 : pt_ke83_0 x1 x2 x3 u1 i a q r i1 a1 q1 r1) (g2 : kG yw142_116 i1 a1 q1 r1 i2 a2 q2 r2) (P2 : pt_ke142_116 x1 x2 x3 u2 i1 a1 q1 r1 i2 a2 q2 r2) : kMar i2 a2 r2 ∧ u1 = u2 := by
  obtain ⟨hI, hr⟩ := K
  have b8 := kI_64 hI
  unfold pt_ke142_116 at P2
  rw [g1.fi 7424 rfl, ← h.1, g1.fi 7426 rfl, g1.fi 7427 rfl, g1.fi 7452 rfl, g1.fi 7453 rfl, g1.fa 117 rfl, g1.fa 118 rfl, g1.fa 133 rfl] at P2
  obtain ⟨_, cv, c1, c2, c3, c4, c5, c6, c7, c8, c9, c10, c11, c12, c13⟩ := P1
  obtain ⟨_, ⟨dv, d1, d2, d3, d4, d5, d6, d7⟩, _⟩ := P2
  obtain ⟨m, k⟩ := mend_rel (n := x1) (w := x2) (v := x3) h.2.2.1 (nl_of hI) h.2.2.2.1 (gl_of hI) b8.2
  refine ⟨mn_fin hr h g1 g2 m k (by decide +kernel) (by decide +kernel) (kT7 ((g2.fa 2 rfl).trans c1) ((g2.fa 3 rfl).trans c2) ((g2.fa 4 rfl).trans c3) ((g2.fa 5 rfl).trans c4) ((g2.fi 70 rfl).trans c5) ((g2.fi 71 rfl).trans c6) ((g2.fi 72 rfl).trans c7)) (kT4 d1 d2 d3 d4) (kT6 ((g2.fa 90 rfl).trans c8) ((g2.fa 91 rfl).trans c9) ((g2.fa 92 rfl).trans c10) ((g2.fa 93 rfl).trans c11) ((g2.fi 5700 rfl).trans c12) ((g2.fi 5701 rfl).trans c13)) (kTT3 d5 d6 d7), ?_⟩
  rw [cv, dv]
  exact m.1
set_option maxHeartbeats 4000000 in
theorem st_undo (K : kI i a q ∧ kr r) (h : kMar i a r) (g1 : kG yw108_0 i a q r i1 a1 q1 r1) (P1 : pt_ke108_0 u1 i a q r i1 a1 q1 r1) (g2 : kG yw144_116 i1 a1 q1 r1 i2 a2 q2 r2) (P2 : pt_ke144_116 u2 i1 a1 q1 r1 i2 a2 q2 r2) : kMar i2 a2 r2 ∧ u1 = u2 := by
  obtain ⟨hI, hr⟩ := K
  have b8 := kI_64 hI
  unfold pt_ke144_116 at P2
  rw [g1.fi 7426 rfl, g1.fi 7427 rfl, g1.fi 7452 rfl, g1.fi 7453 rfl, g1.fa 117 rfl, g1.fa 118 rfl, g1.fa 133 rfl] at P2
  obtain ⟨_, cv, c1, c2, c3, c4, c5, c6, c7, c8, c9, c10, c11, c12, c13⟩ := P1
  obtain ⟨_, dv, d1, d2, d3, d4, d5, d6, d7⟩ := P2
  obtain ⟨m, k⟩ := undo_rel h.2.2.1 (nl_of hI) h.2.2.2.1 b8.2
  refine ⟨mn_fin hr h g1 g2 m k (by decide +kernel) (by decide +kernel) (kT7 ((g2.fa 2 rfl).trans c1) ((g2.fa 3 rfl).trans c2) ((g2.fa 4 rfl).trans c3) ((g2.fa 5 rfl).trans c4) ((g2.fi 70 rfl).trans c5) ((g2.fi 71 rfl).trans c6) ((g2.fi 72 rfl).trans c7)) (kT4 d1 d2 d3 d4) (kT6 ((g2.fa 90 rfl).trans c8) ((g2.fa 91 rfl).trans c9) ((g2.fa 92 rfl).trans c10) ((g2.fa 93 rfl).trans c11) ((g2.fi 5700 rfl).trans c12) ((g2.fi 5701 rfl).trans c13)) (kTT3 d5 d6 d7), ?_⟩
  rw [cv, dv]
  exact m.1
set_option maxHeartbeats 4000000 in
theorem st_redo (K : kI i a q ∧ kr r) (h : kMar i a r) (g1 : kG yw109_0 i a q r i1 a1 q1 r1) (P1 : pt_ke109_0 u1 i a q r i1 a1 q1 r1) (g2 : kG yw145_116 i1 a1 q1 r1 i2 a2 q2 r2) (P2 : pt_ke145_116 u2 i1 a1 q1 r1 i2 a2 q2 r2) : kMar i2 a2 r2 ∧ u1 = u2 := by
  obtain ⟨hI, hr⟩ := K
  have b8 := kI_64 hI
  unfold pt_ke145_116 at P2
  rw [g1.fi 7426 rfl, g1.fi 7427 rfl, g1.fi 7452 rfl, g1.fi 7453 rfl, g1.fa 117 rfl, g1.fa 118 rfl, g1.fa 133 rfl] at P2
  obtain ⟨_, cv, c1, c2, c3, c4, c5, c6, c7, c8, c9, c10, c11, c12, c13⟩ := P1
  obtain ⟨_, dv, d1, d2, d3, d4, d5, d6, d7⟩ := P2
  obtain ⟨m, k⟩ := redo_rel h.2.2.1 (nl_of hI) h.2.2.2.1 b8.2
  refine ⟨mn_fin hr h g1 g2 m k (by decide +kernel) (by decide +kernel) (kT7 ((g2.fa 2 rfl).trans c1) ((g2.fa 3 rfl).trans c2) ((g2.fa 4 rfl).trans c3) ((g2.fa 5 rfl).trans c4) ((g2.fi 70 rfl).trans c5) ((g2.fi 71 rfl).trans c6) ((g2.fi 72 rfl).trans c7)) (kT4 d1 d2 d3 d4) (kT6 ((g2.fa 90 rfl).trans c8) ((g2.fa 91 rfl).trans c9) ((g2.fa 92 rfl).trans c10) ((g2.fa 93 rfl).trans c11) ((g2.fi 5700 rfl).trans c12) ((g2.fi 5701 rfl).trans c13)) (kTT3 d5 d6 d7), ?_⟩
  rw [cv, dv]
  exact m.1
end SN
end
section
section SN
variable {i i1 i2 : Nat → Int32} {a a1 a2 : Nat → List Int32} {q q1 q2 : Nat → List Int64} {r r1 r2 : Nat → Nat} {u1 u2 x1 x2 x3 : Int32}
set_option maxHeartbeats 4000000 in
theorem st_buyer (K : kI i a q ∧ kr r) (h : kMar i a r) (g1 : kG yw80_0 i a q r i1 a1 q1 r1) (P1 : pt_ke80_0 x1 x2 u1 i a q r i1 a1 q1 r1) (g2 : kG yw135_116 i1 a1 q1 r1 i2 a2 q2 r2) (P2 : pt_ke135_116 x1 x2 u2 i1 a1 q1 r1 i2 a2 q2 r2) : kMar i2 a2 r2 ∧ u1 = u2 := by
  obtain ⟨hI, hr⟩ := K
  obtain ⟨h1, h2, h3, h4, h5, h6, h7, h8⟩ := h
  have b8 := kI_64 hI
  have P2 : pt_ke135_116 x1 x2 u2 i a q r i2 a2 q2 r2 := by
    unfold pt_ke135_116 at P2 ⊢
    simp only [g1.fi 7424 rfl, g1.fa 117 rfl, g1.fa 118 rfl] at P2
    exact P2
  have p1 := P1.1
  have p2 := P2.1
  rw [← h1] at p2
  have lw := kLaw_fr g2 (by decide +kernel) g1.R (kLaw_fr g1 (by decide +kernel) hr h7)
  have ld := kLd_fr g2 (by decide +kernel) (kLd_fr g1 (by decide +kernel) h5)
  have e64 := g2.fi 64 rfl
  have ev : u1 = u2 := kj_v (by omega)
  have cn : i2 64 = i2 7424 := kj_v (by rw [e64]; omega)
  have up : (i 64).toInt ≤ (i2 64).toInt := by rw [e64]; omega
  have gr : kGr i2 a2 := by
    unfold kGr
    rw [g2.fi 5700 rfl, g1.fi 5700 rfl, g2.fi 5701 rfl, g1.fi 5701 rfl, g2.fi 7452 rfl, g1.fi 7452 rfl, g2.fi 7453 rfl, g1.fi 7453 rfl, g2.fa 90 rfl, g1.fa 90 rfl, g2.fa 91 rfl, g1.fa 91 rfl, g2.fa 92 rfl, g1.fa 92 rfl, g2.fa 93 rfl, g1.fa 93 rfl, g2.fa 133 rfl, g1.fa 133 rfl]
    exact gRel_up up h4
  have im : kIm i2 a2 := by
    unfold kIm
    rw [g2.fi 2 rfl, g1.fi 2 rfl, g2.fi 7448 rfl, g1.fi 7448 rfl, g2.fi 1600 rfl, g1.fi 1600 rfl, g2.fi 1608 rfl, g1.fi 1608 rfl, g2.fi 1609 rfl, g1.fi 1609 rfl, g2.fi 1986 rfl, g1.fi 1986 rfl, g2.fi 7449 rfl, g1.fi 7449 rfl, g2.fa 26 rfl, g1.fa 26 rfl, g2.fa 30 rfl, g1.fa 30 rfl, g2.fa 32 rfl, g1.fa 32 rfl, g2.fa 33 rfl, g1.fa 33 rfl, g2.fa 38 rfl, g1.fa 38 rfl, g2.fa 131 rfl, g1.fa 131 rfl, g2.fa 132 rfl, g1.fa 132 rfl]
    exact ⟨h8.1, fun z => ⟨(h8.2 z).1, Int.le_trans (h8.2 z).2.1 up, (h8.2 z).2.2⟩⟩
  by_cases hC : ((0 : Int) ≤ x1.toInt) ∧ (x1.toInt ≤ 9) ∧ ((0 : Int) ≤ x2.toInt) ∧ (x2.toInt ≤ 9) ∧ ((i 64).toInt < 8)
  · have eb : (i2 64).toInt = (i 64).toInt + 1 := by rw [e64]; omega
    clear p1 p2
    have hC2 : ((0 : Int) ≤ x1.toInt) ∧ (x1.toInt ≤ 9) ∧ ((0 : Int) ≤ x2.toInt) ∧ (x2.toInt ≤ 9) ∧ ((i 7424).toInt < 8) := by rw [← h1]; exact hC
    obtain ⟨_, c1, c2, c3, c4, c5, _⟩ := P1
    obtain ⟨_, d1, d2, _⟩ := P2
    have d1 := d1 hC2
    have d2 := d2 hC2
    rw [← h1] at d1 d2
    refine ⟨⟨cn, ?_, ?_, gr, ld, ?_, lw, im⟩, ev⟩
    · unfold kMk
      rw [g2.fi 72 rfl, g1.fi 72 rfl, g2.fi 73 rfl, g1.fi 73 rfl, g2.fi 450 rfl, g1.fi 450 rfl, g2.fa 2 rfl, g2.fa 6 rfl, g2.fa 8 rfl, g1.fa 8 rfl, g2.fa 9 rfl, g1.fa 9 rfl, c1 hC, c5 hC, d1]
      exact add_mk h2 (fun j hj h8 => (h6 j hj h8).1) b8.1 hC.2.2.2.2 eb (kl_2 hI) (kl_6 hI) (kl_118 hI)
    · unfold kNr
      rw [g2.fi 70 rfl, g1.fi 70 rfl, g2.fi 71 rfl, g1.fi 71 rfl, g2.fi 72 rfl, g1.fi 72 rfl, g2.fi 7426 rfl, g1.fi 7426 rfl, g2.fi 7427 rfl, g1.fi 7427 rfl, g2.fa 2 rfl, g2.fa 3 rfl, g2.fa 4 rfl, g2.fa 5 rfl, c1 hC, c2 hC, c3 hC, c4 hC, d1, d2]
      exact add_nr h3 (fun j hj h8 => (h6 j hj h8).2) b8.1 hC.2.2.2.2 (kl_2 hI) (kl_3 hI) (kl_4 hI) (kl_5 hI) (kl_118 hI) (kl_117 hI)
    · unfold kZe
      rw [d1, d2]
      exact add_ze h6 b8.1 hC.2.2.2.2 eb (kl_118 hI) (kl_117 hI)
  · have eb : i2 64 = i 64 := kj_v (by rw [e64]; omega)
    have hC2 : ¬ (((0 : Int) ≤ x1.toInt) ∧ (x1.toInt ≤ 9) ∧ ((0 : Int) ≤ x2.toInt) ∧ (x2.toInt ≤ 9) ∧ ((i 7424).toInt < 8)) := by rw [← h1]; exact hC
    obtain ⟨_, _, _, _, _, _, n1, n2, n3, n4, n5⟩ := P1
    obtain ⟨_, _, _, m1, m2⟩ := P2
    refine ⟨⟨cn, ?_, ?_, gr, ld, ?_, lw, im⟩, ev⟩
    · unfold kMk
      rw [eb, g2.fi 72 rfl, g1.fi 72 rfl, g2.fi 73 rfl, g1.fi 73 rfl, g2.fi 450 rfl, g1.fi 450 rfl, g2.fa 2 rfl, g2.fa 6 rfl, g2.fa 8 rfl, g1.fa 8 rfl, g2.fa 9 rfl, g1.fa 9 rfl, n1 hC, n5 hC, m1 hC2]
      exact h2
    · unfold kNr
      rw [g2.fi 70 rfl, g1.fi 70 rfl, g2.fi 71 rfl, g1.fi 71 rfl, g2.fi 72 rfl, g1.fi 72 rfl, g2.fi 7426 rfl, g1.fi 7426 rfl, g2.fi 7427 rfl, g1.fi 7427 rfl, g2.fa 2 rfl, g2.fa 3 rfl, g2.fa 4 rfl, g2.fa 5 rfl, n1 hC, n2 hC, n3 hC, n4 hC, m1 hC2, m2 hC2]
      exact h3
    · unfold kZe
      rw [eb, m1 hC2, m2 hC2]
      exact h6
/-! answers that change nothing -/
end SN
end
section
/-! BUYERS FROM A ROW, PURELY -/
abbrev kBt : Type := Int32 × List Int32 × List Int32 × List Int32 × List Int32 × List Int32
abbrev kBr : Type := Int32 × List Int32 × List Int32
noncomputable def kOk3 (p w h : Int32) : Prop := (0 ≤ p.toInt ∧ p.toInt ≤ 999) ∧ (0 ≤ w.toInt ∧ w.toInt ≤ 9) ∧ (0 ≤ h.toInt ∧ h.toInt ≤ 9)
noncomputable def bOk (p w h : Int32) : Bool := decide (0 ≤ p.toInt ∧ p.toInt ≤ 999) && (decide (0 ≤ w.toInt ∧ w.toInt ≤ 9) && decide (0 ≤ h.toInt ∧ h.toInt ≤ 9))
theorem bOk_t {p w h : Int32} (x : kOk3 p w h) : bOk p w h = true := by
  unfold bOk
  rw [decide_eq_true x.1, decide_eq_true x.2.1, decide_eq_true x.2.2]
  rfl
theorem bOk_f {p w h : Int32} (x : ¬ kOk3 p w h) : bOk p w h = false := by
  cases e : bOk p w h with
  | false => rfl
  | true =>
    unfold bOk at e
    simp only [Bool.and_eq_true, decide_eq_true_eq] at e
    exact absurd e x
noncomputable def bAdd (p w h : Int32) (S : kBt) : kBt := (S.1 + 1, S.2.1.set S.1.toNatClampNeg p, S.2.2.1.set S.1.toNatClampNeg w, S.2.2.2.1.set S.1.toNatClampNeg h, S.2.2.2.2.1.set S.1.toNatClampNeg 0, S.2.2.2.2.2.set S.1.toNatClampNeg 0)
noncomputable def rAdb (p w h : Int32) (S : kBr) : kBr := (S.1 + 1, S.2.1.set S.1.toNatClampNeg p, (S.2.2.set S.1.toNatClampNeg w).set (8 + S.1).toNatClampNeg h)
noncomputable def bThr (V : Nat → Int32) (len : Int) : Nat → Nat → kBt → kBt
  | 0, _, S => S
  | n + 1, p, S => bif decide (S.1.toInt < 8) && (decide ((p : Int) + 2 < len) && bOk (V p) (V (p + 1)) (V (p + 2))) then bThr V len n (p + 3) (bAdd (V p) (V (p + 1)) (V (p + 2)) S) else S
noncomputable def rThr (V : Nat → Int32) (len : Int) : Nat → Nat → kBr → kBr
  | 0, _, S => S
  | n + 1, p, S => bif decide (S.1.toInt < 8) && (decide ((p : Int) + 2 < len) && bOk (V p) (V (p + 1)) (V (p + 2))) then rThr V len n (p + 3) (rAdb (V p) (V (p + 1)) (V (p + 2)) S) else S
noncomputable def vQ (Q : List Int64) (b : Nat) (j : Nat) : Int32 := (Q.getD (b + j) 0).toInt32
theorem bThr_end {V : Nat → Int32} {len : Int} {m p : Nat} {S R : kBt} (h : bThr V len m p S = R) (hm : m = 0) : S = R := by subst hm; exact h
theorem bThr_no {V : Nat → Int32} {len : Int} {m p : Nat} {S R : kBt} (h : bThr V len m p S = R) (hc : ¬ (S.1.toInt < 8 ∧ (p : Int) + 2 < len ∧ kOk3 (V p) (V (p + 1)) (V (p + 2)))) : S = R := by
  cases m with
  | zero => exact h
  | succ n =>
    unfold bThr at h
    have e : (decide (S.1.toInt < 8) && (decide ((p : Int) + 2 < len) && bOk (V p) (V (p + 1)) (V (p + 2)))) = false := by
      by_cases c1 : S.1.toInt < 8
      · by_cases c2 : (p : Int) + 2 < len
        · rw [bOk_f (fun z => hc ⟨c1, c2, z⟩), Bool.and_false, Bool.and_false]
        · rw [decide_eq_false c2, Bool.false_and, Bool.and_false]
      · rw [decide_eq_false c1, Bool.false_and]
    rw [e] at h
    exact h
theorem bThr_more {V : Nat → Int32} {len : Int} {m n p : Nat} {S R : kBt} (h : bThr V len m p S = R) (hm : m = n + 1) (h1 : S.1.toInt < 8) (h2 : (p : Int) + 2 < len) (h3 : kOk3 (V p) (V (p + 1)) (V (p + 2))) : bThr V len n (p + 3) (bAdd (V p) (V (p + 1)) (V (p + 2)) S) = R := by
  subst hm
  unfold bThr at h
  rw [decide_eq_true h1, decide_eq_true h2, bOk_t h3] at h
  exact h
theorem rThr_end {V : Nat → Int32} {len : Int} {m p : Nat} {S R : kBr} (h : rThr V len m p S = R) (hm : m = 0) : S = R := by subst hm; exact h
theorem rThr_no {V : Nat → Int32} {len : Int} {m p : Nat} {S R : kBr} (h : rThr V len m p S = R) (hc : ¬ (S.1.toInt < 8 ∧ (p : Int) + 2 < len ∧ kOk3 (V p) (V (p + 1)) (V (p + 2)))) : S = R := by
  cases m with
  | zero => exact h
  | succ n =>
    unfold rThr at h
    have e : (decide (S.1.toInt < 8) && (decide ((p : Int) + 2 < len) && bOk (V p) (V (p + 1)) (V (p + 2)))) = false := by
      by_cases c1 : S.1.toInt < 8
      · by_cases c2 : (p : Int) + 2 < len
        · rw [bOk_f (fun z => hc ⟨c1, c2, z⟩), Bool.and_false, Bool.and_false]
        · rw [decide_eq_false c2, Bool.false_and, Bool.and_false]
      · rw [decide_eq_false c1, Bool.false_and]
    rw [e] at h
    exact h
theorem rThr_more {V : Nat → Int32} {len : Int} {m n p : Nat} {S R : kBr} (h : rThr V len m p S = R) (hm : m = n + 1) (h1 : S.1.toInt < 8) (h2 : (p : Int) + 2 < len) (h3 : kOk3 (V p) (V (p + 1)) (V (p + 2))) : rThr V len n (p + 3) (rAdb (V p) (V (p + 1)) (V (p + 2)) S) = R := by
  subst hm
  unfold rThr at h
  rw [decide_eq_true h1, decide_eq_true h2, bOk_t h3] at h
  exact h
/-! as the methods say it: the next three at y = x2 + 3 * k -/
theorem bt_idx {Q : List Int64} {b : Nat} {y : Int32} {p : Nat} (hy : y.toInt = ((b + p : Nat) : Int)) : (Q.getD y.toNatClampNeg 0).toInt32 = vQ Q b p := by
  have ty := Int32.toNat_toInt y
  unfold vQ
  rw [show y.toNatClampNeg = b + p by omega]
theorem bt_more {Q : List Int64} {len x2 x3 k k1 y y1 y2 : Int32} {S S1 R : kBt} (h : bThr (vQ Q 0) len.toInt (x3.toInt - k.toInt).toNat (x2.toInt + 3 * k.toInt).toNat S = R) (h0 : 0 ≤ x2.toInt) (hk : 0 ≤ k.toInt) (hlt : k.toInt < x3.toInt) (hy : y.toInt = x2.toInt + 3 * k.toInt) (hy1 : y1.toInt = y.toInt + 1) (hy2 : y2.toInt = y.toInt + 2) (hk1 : k1.toInt = k.toInt + 1)
    (c1 : S.1.toInt < 8) (c2 : y.toInt + 2 < len.toInt) (c3 : kOk3 (Q.getD y.toNatClampNeg 0).toInt32 (Q.getD y1.toNatClampNeg 0).toInt32 (Q.getD y2.toNatClampNeg 0).toInt32) (o : S1 = bAdd (Q.getD y.toNatClampNeg 0).toInt32 (Q.getD y1.toNatClampNeg 0).toInt32 (Q.getD y2.toNatClampNeg 0).toInt32 S) : bThr (vQ Q 0) len.toInt (x3.toInt - k1.toInt).toNat (x2.toInt + 3 * k1.toInt).toNat S1 = R := by
  have e0 := bt_idx (Q := Q) (b := 0) (y := y) (p := (x2.toInt + 3 * k.toInt).toNat) (by omega)
  have e1 := bt_idx (Q := Q) (b := 0) (y := y1) (p := (x2.toInt + 3 * k.toInt).toNat + 1) (by omega)
  have e2 := bt_idx (Q := Q) (b := 0) (y := y2) (p := (x2.toInt + 3 * k.toInt).toNat + 2) (by omega)
  rw [e0, e1, e2] at c3 o
  have g := bThr_more (n := (x3.toInt - k1.toInt).toNat) h (by omega) c1 (by omega) c3
  rw [o, show (x2.toInt + 3 * k1.toInt).toNat = (x2.toInt + 3 * k.toInt).toNat + 3 by omega]
  exact g
theorem bt_no {Q : List Int64} {len x2 x3 k y y1 y2 : Int32} {S R : kBt} (h : bThr (vQ Q 0) len.toInt (x3.toInt - k.toInt).toNat (x2.toInt + 3 * k.toInt).toNat S = R) (h0 : 0 ≤ x2.toInt) (hk : 0 ≤ k.toInt) (hy : y.toInt = x2.toInt + 3 * k.toInt) (hy1 : y1.toInt = y.toInt + 1) (hy2 : y2.toInt = y.toInt + 2)
    (c : ¬ (S.1.toInt < 8 ∧ y.toInt + 2 < len.toInt ∧ kOk3 (Q.getD y.toNatClampNeg 0).toInt32 (Q.getD y1.toNatClampNeg 0).toInt32 (Q.getD y2.toNatClampNeg 0).toInt32)) : S = R := by
  have e0 := bt_idx (Q := Q) (b := 0) (y := y) (p := (x2.toInt + 3 * k.toInt).toNat) (by omega)
  have e1 := bt_idx (Q := Q) (b := 0) (y := y1) (p := (x2.toInt + 3 * k.toInt).toNat + 1) (by omega)
  have e2 := bt_idx (Q := Q) (b := 0) (y := y2) (p := (x2.toInt + 3 * k.toInt).toNat + 2) (by omega)
  rw [e0, e1, e2] at c
  exact bThr_no h (fun z => c ⟨z.1, by omega, z.2.2⟩)
theorem rt_more {Q : List Int64} {b : Nat} {len x2 x3 k k1 y y1 y2 : Int32} {S S1 R : kBr} (h : rThr (vQ Q b) len.toInt (x3.toInt - k.toInt).toNat (x2.toInt + 3 * k.toInt).toNat S = R) (h0 : 0 ≤ x2.toInt) (hk : 0 ≤ k.toInt) (hlt : k.toInt < x3.toInt) (hy : y.toInt = (b : Int) + (x2.toInt + 3 * k.toInt)) (hy1 : y1.toInt = y.toInt + 1) (hy2 : y2.toInt = y.toInt + 2) (hk1 : k1.toInt = k.toInt + 1)
    (c1 : S.1.toInt < 8) (c2 : x2.toInt + 3 * k.toInt + 2 < len.toInt) (c3 : kOk3 (Q.getD y.toNatClampNeg 0).toInt32 (Q.getD y1.toNatClampNeg 0).toInt32 (Q.getD y2.toNatClampNeg 0).toInt32) (o : S1 = rAdb (Q.getD y.toNatClampNeg 0).toInt32 (Q.getD y1.toNatClampNeg 0).toInt32 (Q.getD y2.toNatClampNeg 0).toInt32 S) : rThr (vQ Q b) len.toInt (x3.toInt - k1.toInt).toNat (x2.toInt + 3 * k1.toInt).toNat S1 = R := by
  have e0 := bt_idx (Q := Q) (b := b) (y := y) (p := (x2.toInt + 3 * k.toInt).toNat) (by omega)
  have e1 := bt_idx (Q := Q) (b := b) (y := y1) (p := (x2.toInt + 3 * k.toInt).toNat + 1) (by omega)
  have e2 := bt_idx (Q := Q) (b := b) (y := y2) (p := (x2.toInt + 3 * k.toInt).toNat + 2) (by omega)
  rw [e0, e1, e2] at c3 o
  have g := rThr_more (n := (x3.toInt - k1.toInt).toNat) h (by omega) c1 (by omega) c3
  rw [o, show (x2.toInt + 3 * k1.toInt).toNat = (x2.toInt + 3 * k.toInt).toNat + 3 by omega]
  exact g
/-- not enough room, or no buyer more -/
theorem rt_stop {Q : List Int64} {b : Nat} {len x2 x3 k : Int32} {S R : kBr} (h : rThr (vQ Q b) len.toInt (x3.toInt - k.toInt).toNat (x2.toInt + 3 * k.toInt).toNat S = R) (h0 : 0 ≤ x2.toInt) (hk : 0 ≤ k.toInt) (c : len.toInt < x2.toInt + 3 * k.toInt + 3 ∨ 8 ≤ S.1.toInt) : S = R :=
  rThr_no h (fun z => by omega)
theorem rt_no {Q : List Int64} {b : Nat} {len x2 x3 k y y1 y2 : Int32} {S R : kBr} (h : rThr (vQ Q b) len.toInt (x3.toInt - k.toInt).toNat (x2.toInt + 3 * k.toInt).toNat S = R) (h0 : 0 ≤ x2.toInt) (hk : 0 ≤ k.toInt) (hy : y.toInt = (b : Int) + (x2.toInt + 3 * k.toInt)) (hy1 : y1.toInt = y.toInt + 1) (hy2 : y2.toInt = y.toInt + 2)
    (c : ¬ kOk3 (Q.getD y.toNatClampNeg 0).toInt32 (Q.getD y1.toNatClampNeg 0).toInt32 (Q.getD y2.toNatClampNeg 0).toInt32) : S = R := by
  have e0 := bt_idx (Q := Q) (b := b) (y := y) (p := (x2.toInt + 3 * k.toInt).toNat) (by omega)
  have e1 := bt_idx (Q := Q) (b := b) (y := y1) (p := (x2.toInt + 3 * k.toInt).toNat + 1) (by omega)
  have e2 := bt_idx (Q := Q) (b := b) (y := y2) (p := (x2.toInt + 3 * k.toInt).toNat + 2) (by omega)
  rw [e0, e1, e2] at c
  exact rThr_no h (fun z => c z.2.2)
theorem rThr_far {V : Nat → Int32} {len : Int} {m p : Nat} {S : kBr} (h : len ≤ (p : Int) + 2) : rThr V len m p S = S := (rThr_no rfl (fun z => by omega)).symm
/-! alike -/
noncomputable def bRel (dy cm op t g t1 g1 : Int32) (Wh Mu : List Int32) (S : kBt) (R : kBr) : Prop :=
  S.1 = R.1 ∧ (0 ≤ S.1.toInt ∧ S.1.toInt ≤ 8) ∧ mNow S.1 S.2.1 S.2.2.2.2.2 dy cm op Wh Mu R.2.1 ∧ nRel (S.2.1, S.2.2.1, S.2.2.2.1, S.2.2.2.2.1, t, g, dy) (R.2.1, R.2.2, t1, g1) ∧ (∀ j : Nat, S.1.toInt ≤ (j : Int) → j < 8 → R.2.1.getD (10 + j) 0 = 0 ∧ R.2.2.getD (16 + j) 0 = 0) ∧ (S.2.1.length = 8 ∧ S.2.2.1.length = 8 ∧ S.2.2.2.1.length = 8 ∧ S.2.2.2.2.1.length = 8 ∧ S.2.2.2.2.2.length = 8 ∧ R.2.1.length = 31 ∧ R.2.2.length = 24)
theorem add_bRel {dy cm op t g t1 g1 p w h : Int32} {Wh Mu : List Int32} {S : kBt} {R : kBr} (H : bRel dy cm op t g t1 g1 Wh Mu S R) (h8 : S.1.toInt < 8) : bRel dy cm op t g t1 g1 Wh Mu (bAdd p w h S) (rAdb p w h R) ∧ (bAdd p w h S).1.toInt = S.1.toInt + 1 := by
  obtain ⟨b, P, W, Hh, D, O⟩ := S
  obtain ⟨b1, N, Y⟩ := R
  obtain ⟨e1, ⟨b0, b8⟩, mk, nr, ze, l1, l2, l3, l4, l5, l6, l7⟩ := H
  dsimp only at e1 b0 b8 mk nr ze l1 l2 l3 l4 l5 l6 l7 h8
  subst e1
  have eb : (b + 1).toInt = b.toInt + 1 := by
    have := kd_add (x := b) (y := 1) (by rw [(by decide : (1 : Int32).toInt = 1)]; omega) (by rw [(by decide : (1 : Int32).toInt = 1)]; omega)
    rw [this, (by decide : (1 : Int32).toInt = 1)]
  unfold bAdd rAdb
  dsimp only
  refine ⟨⟨rfl, ⟨by dsimp only; omega, by dsimp only; omega⟩, add_mk mk (fun j hj h8 => (ze j hj h8).1) b0 h8 eb l1 l5 l6, add_nr nr (fun j hj h8 => (ze j hj h8).2) b0 h8 l1 l2 l3 l4 l6 l7, add_ze ze b0 h8 eb l6 l7, ?_, ?_, ?_, ?_, ?_, ?_, ?_⟩, eb⟩
  all_goals (dsimp only; first | (rw [List.length_set]; assumption) | (rw [List.length_set, List.length_set]; assumption))
theorem thr_same {dy cm op t g t1 g1 : Int32} {Wh Mu : List Int32} {V V1 : Nat → Int32} {len : Int} (hV : ∀ j : Nat, (j : Int) < len → V j = V1 j) : ∀ (n p : Nat) (S : kBt) (R : kBr), bRel dy cm op t g t1 g1 Wh Mu S R → bRel dy cm op t g t1 g1 Wh Mu (bThr V len n p S) (rThr V1 len n p R) ∧ S.1.toInt ≤ (bThr V len n p S).1.toInt
  | 0, p, S, R, H => ⟨H, Int.le_refl _⟩
  | n + 1, p, S, R, H => by
    by_cases c : S.1.toInt < 8 ∧ (p : Int) + 2 < len ∧ kOk3 (V p) (V (p + 1)) (V (p + 2))
    · obtain ⟨c1, c2, c3⟩ := c
      have e0 := hV p (by omega)
      have e1 := hV (p + 1) (by omega)
      have e2 := hV (p + 2) (by omega)
      have g1 := bThr_more (n := n) (S := S) (R := bThr V len (n + 1) p S) rfl rfl c1 c2 c3
      have g2 := rThr_more (n := n) (S := R) (R := rThr V1 len (n + 1) p R) rfl rfl (by rw [← H.1]; exact c1) c2 (by rw [← e0, ← e1, ← e2]; exact c3)
      rw [← g1, ← g2, ← e0, ← e1, ← e2]
      obtain ⟨a1, a2⟩ := add_bRel (p := V p) (w := V (p + 1)) (h := V (p + 2)) H c1
      obtain ⟨i1, i2⟩ := thr_same hV n (p + 3) _ _ a1
      exact ⟨i1, by omega⟩
    · have c2 : ¬ (R.1.toInt < 8 ∧ (p : Int) + 2 < len ∧ kOk3 (V1 p) (V1 (p + 1)) (V1 (p + 2))) := fun z => c ⟨by rw [H.1]; exact z.1, z.2.1, by rw [hV p (by omega), hV (p + 1) (by omega), hV (p + 2) (by omega)]; exact z.2.2⟩
      rw [← bThr_no (S := S) (R := bThr V len (n + 1) p S) rfl c, ← rThr_no (S := R) (R := rThr V1 len (n + 1) p R) rfl c2]
      exact ⟨H, Int.le_refl _⟩
theorem kj_b60 {x : Int} (h : 0 ≤ x) : (((60 * x).toNat : Nat) : Int) = 60 * x := by omega
theorem kj_b60y {y c z : Int} {b : Nat} (hb : (b : Int) = c) (h : y = c + z) : y = (b : Int) + z := by omega
theorem kT6b {A B C D E F : Type} {a a1 : A} {b b1 : B} {c c1 : C} {d d1 : D} {e e1 : E} {f f1 : F} (h1 : a = a1) (h2 : b = b1) (h3 : c = c1) (h4 : d = d1) (h5 : e = e1) (h6 : f = f1) : (a, b, c, d, e, f) = (a1, b1, c1, d1, e1, f1) := by subst h1; subst h2; subst h3; subst h4; subst h5; subst h6; rfl
theorem kT3b {A B C : Type} {a a1 : A} {b b1 : B} {c c1 : C} (h1 : a = a1) (h2 : b = b1) (h3 : c = c1) : (a, b, c) = (a1, b1, c1) := by subst h1; subst h2; subst h3; rfl
theorem kj_inc {x y : Int32} (h : y.toInt = x.toInt + 1) (h8 : x.toInt < 8 ∧ 0 ≤ x.toInt) : y = x + 1 := kj_v (by
  have e : (x + 1).toInt = x.toInt + 1 := by
    have := kd_add (x := x) (y := 1) (by rw [(by decide : (1 : Int32).toInt = 1)]; omega) (by rw [(by decide : (1 : Int32).toInt = 1)]; omega)
    rw [this, (by decide : (1 : Int32).toInt = 1)]
  omega)
end
