/-! WHAT HOLDS BETWEEN TWO CALLS, BY TABLE: the ranges of the int fields, the lengths of the arrays, the ranges of their elements -/
def kT : List (Nat × Int × Int) := [(2, 0, 1), (64, 0, 8), (450, 0, 5), (640, 0, 1), (643, 0, 121), (645, 0, 121), (1600, 0, 8), (1986, 0, 5), (2176, 0, 1), (2179, 0, 121), (2181, 0, 121), (3138, 0, 20), (3200, 0, 8), (3586, 0, 5), (3776, 0, 1), (3779, 0, 121), (3781, 0, 121), (5700, 0, 40), (5701, 0, 40), (6017, 0, 50), (6019, 0, 1000), (6273, 0, 120), (6274, 0, 120), (6275, 0, 1), (6400, 0, 1), (6403, 0, 121), (6405, 0, 121), (6656, 0, 2), (6658, 0, 4), (6659, 0, 60), (6784, 0, 2), (6786, 0, 4), (6787, 0, 60), (6912, 0, 2), (6914, 0, 4), (6915, 0, 60), (7040, 0, 2), (7042, 0, 4), (7043, 0, 60), (7168, 0, 2), (7170, 0, 4), (7171, 0, 60), (7296, 0, 2), (7298, 0, 4), (7299, 0, 60), (7424, 0, 8), (7426, 1, 5), (7429, 0, 120), (7431, 0, 1), (7432, 0, 60), (7437, 0, 120), (7439, 0, 200), (7440, 0, 61), (7448, 0, 1), (7449, 0, 8), (7452, 0, 40), (7453, 0, 40), (7455, 0, 50), (7457, 0, 1000), (7469, 0, 21)]
def kFull : Int × Int := (-2147483648, 2147483647)
def kR (k : Nat) : Int × Int := match kT.find? (fun z => Nat.beq z.1 k) with
  | some z => z.2
  | none => kFull
/-- of the reference's 31 numbers: how many debts, whose -/
def kNow (j : Nat) : Int × Int := bif Nat.beq j 18 then (0, 5) else bif Nat.ble 19 j && Nat.ble j 24 then (0, 7) else kFull
def kE (p j : Nat) : Int × Int := match p with
  | 95 => (0, 7)
  | 118 => kNow j
  | 131 => kNow j
  | 139 => kNow j
  | 140 => kNow (j % 31)
  | 133 => (match j % 4 with
    | 0 => (0, 7)
    | 1 => (0, 6)
    | _ => kFull)
  | 134 => (0, 7)
  | 136 => (-1, 59)
  | 137 => (0, 60)
  | 142 => (0, 7)
  | 146 => (0, 7)
  | _ => kFull
def kN : List (Nat × Nat) := [(2, 8), (3, 8), (4, 8), (5, 8), (6, 8), (8, 5), (9, 5), (11, 121), (12, 121), (13, 121), (14, 5), (16, 8), (17, 8), (18, 8), (19, 8), (20, 8), (21, 8), (22, 8), (23, 8), (24, 6), (26, 8), (27, 8), (28, 8), (29, 8), (30, 8), (32, 5), (33, 5), (35, 121), (36, 121), (37, 121), (38, 5), (40, 8), (41, 8), (42, 8), (43, 8), (44, 8), (45, 8), (46, 8), (47, 8), (48, 6), (51, 8), (52, 8), (53, 8), (54, 8), (55, 8), (57, 5), (58, 5), (60, 121), (61, 121), (62, 121), (63, 5), (65, 8), (66, 8), (67, 8), (68, 8), (69, 8), (70, 8), (71, 8), (72, 8), (73, 6), (74, 20), (75, 20), (76, 20), (77, 20), (78, 5), (79, 32), (81, 8), (82, 8), (83, 8), (84, 8), (85, 8), (86, 8), (87, 8), (88, 8), (90, 40), (91, 40), (92, 40), (93, 40), (95, 50), (96, 24), (99, 120), (101, 121), (102, 121), (103, 121), (117, 24), (118, 31), (119, 120), (120, 60), (121, 60), (122, 60), (123, 200), (124, 61), (125, 61), (126, 61), (127, 200), (128, 200), (129, 6), (130, 5), (131, 31), (132, 5), (133, 160), (134, 50), (135, 24), (136, 6), (137, 6), (139, 31), (140, 155), (141, 64), (142, 21), (143, 21), (144, 21), (145, 21), (146, 5), (147, 5), (148, 64)]
def kL (p : Nat) : Nat := match kN.find? (fun z => Nat.beq z.1 p) with
  | some z => z.2
  | none => 0
def kQ : List (Nat × Nat) := [(105, 60), (107, 60), (109, 60), (111, 60), (113, 60), (115, 60), (138, 360)]
def kLq (p : Nat) : Nat := match kQ.find? (fun z => Nat.beq z.1 p) with
  | some z => z.2
  | none => 0
def kI (i : Nat → Int32) (a : Nat → List Int32) (q : Nat → List Int64) : Prop :=
  (∀ k : Nat, (kR k).1 ≤ (i k).toInt ∧ (i k).toInt ≤ (kR k).2) ∧ (∀ p : Nat, (a p).length = kL p) ∧ (∀ p j : Nat, (kE p j).1 ≤ ((a p).getD j 0).toInt ∧ ((a p).getD j 0).toInt ≤ (kE p j).2) ∧ (∀ p : Nat, (q p).length = kLq p)
theorem ku_same {T : Type} (f : Nat → T) (k : Nat) (v : T) : ku f k v k = v := by
  unfold ku
  rw [Nat.beq_refl]
  rfl
theorem ku_other {T : Type} (f : Nat → T) {k n : Nat} (v : T) (h : n ≠ k) : ku f k v n = f n := by
  unfold ku
  cases e : Nat.beq n k with
  | true => exact absurd (Nat.eq_of_beq_eq_true e) h
  | false => rfl
theorem kI_i {i : Nat → Int32} {a : Nat → List Int32} {q : Nat → List Int64} (h : kI i a q) (k : Nat) {v : Int32} (hv : (kR k).1 ≤ v.toInt ∧ v.toInt ≤ (kR k).2) : kI (ku i k v) a q := by
  refine ⟨fun n => ?_, h.2⟩
  by_cases e : n = k
  · subst e
    rw [ku_same]
    exact hv
  · rw [ku_other i v e]
    exact h.1 n
theorem kI_a {i : Nat → Int32} {a : Nat → List Int32} {q : Nat → List Int64} (h : kI i a q) (p j : Nat) {v : Int32} (hv : (kE p j).1 ≤ v.toInt ∧ v.toInt ≤ (kE p j).2) : kI i (ku a p ((a p).set j v)) q := by
  refine ⟨h.1, fun n => ?_, fun n m => ?_, h.2.2.2⟩
  · by_cases e : n = p
    · subst e
      rw [ku_same, List.length_set]
      exact h.2.1 n
    · rw [ku_other a _ e]
      exact h.2.1 n
  · by_cases e : n = p
    · subst e
      rw [ku_same]
      by_cases e2 : m = j
      · subst e2
        by_cases e3 : m < (a n).length
        · rw [List.getD_eq_getElem?_getD, List.getElem?_set_self e3]
          exact hv
        · rw [List.set_eq_of_length_le (by omega)]
          exact h.2.2.1 n m
      · rw [List.getD_eq_getElem?_getD, List.getElem?_set_ne (fun z => e2 z.symm), ← List.getD_eq_getElem?_getD]
        exact h.2.2.1 n m
    · rw [ku_other a _ e]
      exact h.2.2.1 n m
theorem kI_q {i : Nat → Int32} {a : Nat → List Int32} {q : Nat → List Int64} (h : kI i a q) (p : Nat) {l : List Int64} (hl : l.length = kLq p) : kI i a (ku q p l) := by
  refine ⟨h.1, h.2.1, h.2.2.1, fun n => ?_⟩
  by_cases e : n = p
  · subst e
    rw [ku_same]
    exact hl
  · rw [ku_other q _ e]
    exact h.2.2.2 n
