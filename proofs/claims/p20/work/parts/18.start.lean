/-! heaps compared by a program -/
def mi_eV : Value → Value → Bool
  | .int a, .int b => decide (a = b)
  | .long a, .long b => decide (a = b)
  | .null, .null => true
  | .ref a, .ref b => Nat.beq a b
  | _, _ => false
theorem mi_eV_ok {a b : Value} (h : mi_eV a b = true) : a = b := by
  unfold mi_eV at h
  split at h
  · rw [of_decide_eq_true h]
  · rw [of_decide_eq_true h]
  · rfl
  · rw [Nat.eq_of_beq_eq_true h]
  · cases h
def mi_eT : FieldType → FieldType → Bool
  | .int, .int => true
  | .long, .long => true
  | .array .int, .array .int => true
  | .object a, .object b => decide (a = b)
  | _, _ => false
theorem mi_eT_ok {a b : FieldType} (h : mi_eT a b = true) : a = b := by
  unfold mi_eT at h
  split at h
  · rfl
  · rfl
  · rfl
  · rw [of_decide_eq_true h]
  · cases h
def mi_eL {α : Type} (f : α → α → Bool) : List α → List α → Bool
  | [], [] => true
  | a :: l, b :: r => f a b && mi_eL f l r
  | _, _ => false
theorem mi_eL_ok {α : Type} {f : α → α → Bool} (hf : ∀ a b, f a b = true → a = b) : ∀ l r, mi_eL f l r = true → l = r
  | [], [], _ => rfl
  | a :: l, b :: r, h => by
    obtain ⟨h1, h2⟩ := Bool.and_eq_true_iff.mp h
    rw [hf a b h1, mi_eL_ok hf l r h2]
  | [], _ :: _, h => by cases h
  | _ :: _, [], h => by cases h
def mi_eA : mi_A → mi_A → Bool
  | .inl a, .inl b => mi_eL (fun x y => decide (x = y)) a b
  | .inr (.inl a), .inr (.inl b) => mi_eL (fun x y => decide (x = y)) a b
  | .inr (.inr a), .inr (.inr b) => mi_eL (fun x y => decide (x = y)) a b
  | _, _ => false
theorem mi_eA_ok {a b : mi_A} (h : mi_eA a b = true) : a = b := by
  unfold mi_eA at h
  split at h
  · rw [mi_eL_ok (fun _ _ z => of_decide_eq_true z) _ _ h]
  · rw [mi_eL_ok (fun _ _ z => of_decide_eq_true z) _ _ h]
  · rw [mi_eL_ok (fun _ _ z => of_decide_eq_true z) _ _ h]
  · cases h
def mi_eE : mi_E → mi_E → Bool
  | .inl a, .inl b => Nat.beq a.1 b.1 && mi_eL mi_eV a.2 b.2
  | .inr a, .inr b => mi_eT a.1 b.1 && mi_eA a.2 b.2
  | _, _ => false
theorem mi_eE_ok (a b : mi_E) (h : mi_eE a b = true) : a = b := by
  unfold mi_eE at h
  split at h
  next a b =>
    obtain ⟨h1, h2⟩ := Bool.and_eq_true_iff.mp h
    exact congrArg Sum.inl (Prod.ext (Nat.eq_of_beq_eq_true h1) (mi_eL_ok (fun _ _ z => mi_eV_ok z) _ _ h2))
  next a b =>
    obtain ⟨h1, h2⟩ := Bool.and_eq_true_iff.mp h
    exact congrArg Sum.inr (Prod.ext (mi_eT_ok h1) (mi_eA_ok h2))
  · cases h
/-- a run's end is this one -/
def mi_eR (x : Option mi_R) (v : Option Value) (h : mi_H) : Bool := match x, v with
  | some r, none => r.1.isNone && mi_eL mi_eE r.2 h
  | some r, some v => (match r.1 with
    | some u => mi_eV u v
    | none => false) && mi_eL mi_eE r.2 h
  | _, _ => false
theorem mi_eR_ok {x : Option mi_R} {v : Option Value} {h : mi_H} (e : mi_eR x v h = true) : x = some (v, h) := by
  unfold mi_eR at e
  split at e
  next r =>
    obtain ⟨h1, h2⟩ := Bool.and_eq_true_iff.mp e
    exact congrArg some (Prod.ext (Option.isNone_iff_eq_none.mp h1) (mi_eL_ok mi_eE_ok _ _ h2))
  next r v =>
    obtain ⟨h1, h2⟩ := Bool.and_eq_true_iff.mp e
    split at h1
    next u hu => exact congrArg some (Prod.ext (hu.trans (congrArg some (mi_eV_ok h1))) (mi_eL_ok mi_eE_ok _ _ h2))
    next => cases h1
  · cases e
def mi_N0 : mi_N := (fun z => match z with
  | 0 => some (.int 1)
  | 1 => some (.ref (mi_RO + 1))
  | 2 => some (.ref (mi_RO + 2))
  | 3 => some (.ref (mi_RO + 3))
  | 4 => some (.ref (mi_RO + 4))
  | _ => none, fun j => match j with
  | 1 => some (.int, [0, 0, 0, 0, 1, 0, 0])
  | 2 => some (.int, [999, 9, 9, 1, 5, 1, 99])
  | 3 => some (.int, [1, 10, 11, 2, 20, 0, 0, 0, 0, 30, 0, 0, 0, 41, 40, 0, 0, 0, 50, 0, 0, 0, 0, 60, 70, 0, 0, 0, 0, 80, 0, 81])
  | 4 => some (.int, [-1, 0, 0, 2, 1, 3, 0, 4])
  | 20 => some (.byte, [119, 112, 104, 110, 111, 100])
  | 21 => some (.byte, [40, 33, 45])
  | 22 => some (.byte, [42, 47, 37])
  | 23 => some (.byte, [43, 45])
  | 24 => some (.byte, [60, 61, 62])
  | _ => none, fun j k => match j, k with
  | 10, 0 => some (.int 0)
  | 10, 1 => some (.ref (mi_RO + 20))
  | 11, 0 => some (.int 0)
  | 11, 1 => some (.ref (mi_RO + 21))
  | 12, 0 => some (.int 0)
  | 12, 1 => some (.ref (mi_RO + 22))
  | 13, 0 => some (.int 0)
  | 13, 1 => some (.ref (mi_RO + 23))
  | 14, 0 => some (.int 0)
  | 14, 1 => some (.ref (mi_RO + 24))
  | _, _ => none)
def mi_G : mi_H := [.inl (8, [.ref 1, .ref 25, .int 0, .ref 49, .ref 89, .ref 94, .ref 97, .ref 98]),
  .inl (4, [.int 0, .ref 2, .ref 3, .ref 4, .ref 5, .ref 6, .int 3, .int 1, .int 0, .int 0, .ref 7, .ref 10, .ref 14, .ref 15, .int 8, .int 0, .int 0, .ref 24]),
  .inr (.int, .inl (List.replicate 8 0)),
  .inr (.int, .inl (List.replicate 8 0)),
  .inr (.int, .inl (List.replicate 8 0)),
  .inr (.int, .inl (List.replicate 8 0)),
  .inr (.int, .inl (List.replicate 8 0)),
  .inl (0, [.ref 8, .ref 9, .int 0]),
  .inr (.int, .inl (List.replicate 5 0)),
  .inr (.int, .inl (List.replicate 5 0)),
  .inl (3, [.int 0, .ref 11, .ref 12, .int 0, .ref 13, .int 0]),
  .inr (.int, .inl (List.replicate 121 0)),
  .inr (.int, .inl (List.replicate 121 0)),
  .inr (.int, .inl (List.replicate 121 0)),
  .inr (.int, .inl (List.replicate 5 0)),
  .inr (.array .int, .inr (.inr [some 16, some 17, some 18, some 19, some 20, some 21, some 22, some 23])),
  .inr (.int, .inl (List.replicate 8 0)),
  .inr (.int, .inl (List.replicate 8 0)),
  .inr (.int, .inl (List.replicate 8 0)),
  .inr (.int, .inl (List.replicate 8 0)),
  .inr (.int, .inl (List.replicate 8 0)),
  .inr (.int, .inl (List.replicate 8 0)),
  .inr (.int, .inl (List.replicate 8 0)),
  .inr (.int, .inl (List.replicate 8 0)),
  .inr (.int, .inl (List.replicate 6 0)),
  .inl (4, [.int 0, .ref 26, .ref 27, .ref 28, .ref 29, .ref 30, .int 3, .int 1, .int 0, .int 0, .ref 31, .ref 34, .ref 38, .ref 39, .int 8, .int 0, .int 0, .ref 48]),
  .inr (.int, .inl (List.replicate 8 0)),
  .inr (.int, .inl (List.replicate 8 0)),
  .inr (.int, .inl (List.replicate 8 0)),
  .inr (.int, .inl (List.replicate 8 0)),
  .inr (.int, .inl (List.replicate 8 0)),
  .inl (0, [.ref 32, .ref 33, .int 0]),
  .inr (.int, .inl (List.replicate 5 0)),
  .inr (.int, .inl (List.replicate 5 0)),
  .inl (3, [.int 0, .ref 35, .ref 36, .int 0, .ref 37, .int 0]),
  .inr (.int, .inl (List.replicate 121 0)),
  .inr (.int, .inl (List.replicate 121 0)),
  .inr (.int, .inl (List.replicate 121 0)),
  .inr (.int, .inl (List.replicate 5 0)),
  .inr (.array .int, .inr (.inr [some 40, some 41, some 42, some 43, some 44, some 45, some 46, some 47])),
  .inr (.int, .inl (List.replicate 8 0)),
  .inr (.int, .inl (List.replicate 8 0)),
  .inr (.int, .inl (List.replicate 8 0)),
  .inr (.int, .inl (List.replicate 8 0)),
  .inr (.int, .inl (List.replicate 8 0)),
  .inr (.int, .inl (List.replicate 8 0)),
  .inr (.int, .inl (List.replicate 8 0)),
  .inr (.int, .inl (List.replicate 8 0)),
  .inr (.int, .inl (List.replicate 6 0)),
  .inl (7, [.ref 50, .ref 74, .int 0, .ref 75, .ref 76, .ref 77, .int 0, .ref 78, .ref 79, .ref 80]),
  .inl (4, [.int 0, .ref 51, .ref 52, .ref 53, .ref 54, .ref 55, .int 3, .int 1, .int 0, .int 0, .ref 56, .ref 59, .ref 63, .ref 64, .int 8, .int 0, .int 0, .ref 73]),
  .inr (.int, .inl (List.replicate 8 0)),
  .inr (.int, .inl (List.replicate 8 0)),
  .inr (.int, .inl (List.replicate 8 0)),
  .inr (.int, .inl (List.replicate 8 0)),
  .inr (.int, .inl (List.replicate 8 0)),
  .inl (0, [.ref 57, .ref 58, .int 0]),
  .inr (.int, .inl (List.replicate 5 0)),
  .inr (.int, .inl (List.replicate 5 0)),
  .inl (3, [.int 0, .ref 60, .ref 61, .int 0, .ref 62, .int 0]),
  .inr (.int, .inl (List.replicate 121 0)),
  .inr (.int, .inl (List.replicate 121 0)),
  .inr (.int, .inl (List.replicate 121 0)),
  .inr (.int, .inl (List.replicate 5 0)),
  .inr (.array .int, .inr (.inr [some 65, some 66, some 67, some 68, some 69, some 70, some 71, some 72])),
  .inr (.int, .inl (List.replicate 8 0)),
  .inr (.int, .inl (List.replicate 8 0)),
  .inr (.int, .inl (List.replicate 8 0)),
  .inr (.int, .inl (List.replicate 8 0)),
  .inr (.int, .inl (List.replicate 8 0)),
  .inr (.int, .inl (List.replicate 8 0)),
  .inr (.int, .inl (List.replicate 8 0)),
  .inr (.int, .inl (List.replicate 8 0)),
  .inr (.int, .inl (List.replicate 6 0)),
  .inr (.int, .inl (List.replicate 20 0)),
  .inr (.int, .inl (List.replicate 20 0)),
  .inr (.int, .inl (List.replicate 20 0)),
  .inr (.int, .inl (List.replicate 20 0)),
  .inr (.int, .inl (List.replicate 5 0)),
  .inr (.int, .inl (List.replicate 32 0)),
  .inr (.array .int, .inr (.inr [some 81, some 82, some 83, some 84, some 85, some 86, some 87, some 88])),
  .inr (.int, .inl (List.replicate 8 0)),
  .inr (.int, .inl (List.replicate 8 0)),
  .inr (.int, .inl (List.replicate 8 0)),
  .inr (.int, .inl (List.replicate 8 0)),
  .inr (.int, .inl (List.replicate 8 0)),
  .inr (.int, .inl (List.replicate 8 0)),
  .inr (.int, .inl (List.replicate 8 0)),
  .inr (.int, .inl (List.replicate 8 0)),
  .inl (1, [.ref 90, .ref 91, .ref 92, .ref 93, .int 0, .int 0]),
  .inr (.int, .inl (List.replicate 40 0)),
  .inr (.int, .inl (List.replicate 40 0)),
  .inr (.int, .inl (List.replicate 40 0)),
  .inr (.int, .inl (List.replicate 40 0)),
  .inl (2, [.ref 95, .int 0, .ref 96, .int 0]),
  .inr (.int, .inl (List.replicate 50 0)),
  .inr (.int, .inl (List.replicate 24 0)),
  .inr (.object "ThirdAfter$Shelf", .inr (.inr [some 104, some 106, some 108, some 110, some 112, some 114])),
  .inl (6, [.ref 99, .int 0, .int 0, .int 0, .ref 100]),
  .inr (.int, .inl (List.replicate 120 0)),
  .inl (3, [.int 0, .ref 101, .ref 102, .int 0, .ref 103, .int 0]),
  .inr (.int, .inl (List.replicate 121 0)),
  .inr (.int, .inl (List.replicate 121 0)),
  .inr (.int, .inl (List.replicate 121 0)),
  .inl (5, [.int 0, .int (-1), .int 0, .int 0, .ref 105]),
  .inr (.long, .inr (.inl (List.replicate 60 0))),
  .inl (5, [.int 0, .int (-1), .int 0, .int 0, .ref 107]),
  .inr (.long, .inr (.inl (List.replicate 60 0))),
  .inl (5, [.int 0, .int (-1), .int 0, .int 0, .ref 109]),
  .inr (.long, .inr (.inl (List.replicate 60 0))),
  .inl (5, [.int 0, .int (-1), .int 0, .int 0, .ref 111]),
  .inr (.long, .inr (.inl (List.replicate 60 0))),
  .inl (5, [.int 0, .int (-1), .int 0, .int 0, .ref 113]),
  .inr (.long, .inr (.inl (List.replicate 60 0))),
  .inl (5, [.int 0, .int (-1), .int 0, .int 0, .ref 115]),
  .inr (.long, .inr (.inl (List.replicate 60 0))),
  .inl (9, [.int 0, .ref 117, .int 3, .int 1, .ref 118, .int 0, .ref 119, .int 0, .int 0, .ref 120, .ref 121, .ref 122, .ref 123, .int 0, .int 0, .int 0, .int 0, .ref 124, .ref 125, .ref 126, .ref 127, .ref 128, .ref 129, .ref 130, .int 0, .int 0, .ref 131, .ref 132, .int 0, .int 0, .ref 133, .int 0, .ref 134, .int 0, .ref 135, .ref 136, .ref 137, .ref 138, .ref 139, .ref 140, .int 0, .int 0, .int 0, .int 0, .ref 141, .int 0, .ref 142, .ref 143, .ref 144, .ref 145, .ref 146, .ref 147, .int 0, .ref 148]),
  .inr (.int, .inl (List.replicate 24 0)),
  .inr (.int, .inl (List.replicate 31 0)),
  .inr (.int, .inl (List.replicate 120 0)),
  .inr (.int, .inl (List.replicate 60 0)),
  .inr (.int, .inl (List.replicate 60 0)),
  .inr (.int, .inl (List.replicate 60 0)),
  .inr (.int, .inl (List.replicate 200 0)),
  .inr (.int, .inl (List.replicate 61 0)),
  .inr (.int, .inl (List.replicate 61 0)),
  .inr (.int, .inl (List.replicate 61 0)),
  .inr (.int, .inl (List.replicate 200 0)),
  .inr (.int, .inl (List.replicate 200 0)),
  .inr (.int, .inl (List.replicate 6 0)),
  .inr (.int, .inl (List.replicate 5 0)),
  .inr (.int, .inl (List.replicate 31 0)),
  .inr (.int, .inl (List.replicate 5 0)),
  .inr (.int, .inl (List.replicate 160 0)),
  .inr (.int, .inl (List.replicate 50 0)),
  .inr (.int, .inl (List.replicate 24 0)),
  .inr (.int, .inl (List.replicate 6 (-1))),
  .inr (.int, .inl (List.replicate 6 0)),
  .inr (.long, .inr (.inl (List.replicate 360 0))),
  .inr (.int, .inl (List.replicate 31 0)),
  .inr (.int, .inl (List.replicate 155 0)),
  .inr (.int, .inl (List.replicate 64 0)),
  .inr (.int, .inl (List.replicate 21 0)),
  .inr (.int, .inl (List.replicate 21 0)),
  .inr (.int, .inl (List.replicate 21 0)),
  .inr (.int, .inl (List.replicate 21 0)),
  .inr (.int, .inl (List.replicate 5 0)),
  .inr (.int, .inl (List.replicate 5 0)),
  .inr (.int, .inl (List.replicate 64 0))]
theorem mi_G1 : mi_fun mi_N0 6 79 [.ref 0] [.inl (8, mi_df 8)] = some (none, mi_G.take 116) := mi_eR_ok (by decide +kernel)
theorem mi_G2 : mi_fun mi_N0 6 130 [.ref 116] (mi_G.take 116 ++ [.inl (9, mi_df 9)]) = some (none, mi_G) := mi_eR_ok (by decide +kernel)
/-! rules for runs with unknown numbers -/
theorem mi_sem_b {N : mi_N} {d : Nat} {q : mi_M × List (Nat × mi_I)} (hq : q ∈ mi_prog) {rv : Option Value} {h1 : mi_H} {x : mi_S} (cb b : Bool) (hb : cb = b) (t u : Nat) (z : mi_L × List Value × (Nat × Nat) × mi_H) (hx : mi_step N (fun _ _ _ => none) q x = some (.inl (bif cb then t else u, z))) (k : mi_Sem N (d + 1) q rv h1 (bif b then t else u, z)) : mi_Sem N (d + 1) q rv h1 x := by
  subst hb
  exact mi_sem_step hq (mi_calok_none N d) hx k
theorem mi_sem_call {N : mi_N} {d d1 : Nat} {q : mi_M × List (Nat × mi_I)} (hq : q ∈ mi_prog) {rv : Option Value} {h1 : mi_H} {x : mi_S} {i : mi_I} (hf : mi_find q.2 x.1 = some i) {y : Nat} {r : mi_M} {as rest : List Value} (hi : mi_inv N i.1 i.2.2 x.2.2.1 x.2.2.2.2 = some (y, r, as, rest)) {rv1 : Option Value} {h2 : mi_H} (hM : mi_Met N d1 r as x.2.2.2.2 rv1 h2) (hd : d1 + 1 ≤ d) (hc : x.2.2.2.1.1 + r.2.2.2.2.2.2.2.1 ≤ q.1.2.2.2.2.2.2.2.1 ∧ x.2.2.2.1.2 + r.2.2.2.2.2.2.2.2 ≤ q.1.2.2.2.2.2.2.2.2)
    (k : mi_Sem N d q rv h1 (x.1 + 3, x.2.1, rv1.toList ++ rest, (x.2.2.2.1.1 + r.2.2.2.2.2.2.2.1, x.2.2.2.1.2 + r.2.2.2.2.2.2.2.2), h2)) : mi_Sem N d q rv h1 x := by
  intro base ra cT D p l e s m args below meth c cx hr hlocks hini
  obtain ⟨hdc, hlen, hok⟩ := mi_prog_in hq hf
  exact mi_inv_ok (R := mi_rm q.1 d) cx hdc hlen hok hi hM ⟨by show d1 + 2 ≤ d + 1; omega, by show 60 * d1 + 120 ≤ 60 * d + 60; omega⟩ hc (k base ra cT D p l e s m args below meth c cx hr hlocks hini)
theorem mi_ltF {x y : Int32} (k : Int) (hk : y.toInt = k) (h : k ≤ x.toInt) : decide (x < y) = false := decide_eq_false (fun z => by have := Int32.lt_iff_toInt_lt.mp z; omega)
theorem mi_sem_sw {N : mi_N} {d : Nat} {q : mi_M × List (Nat × mi_I)} (hq : q ∈ mi_prog) {rv : Option Value} {h1 : mi_H} {pc : Nat} {ls : mi_L} {r : List Value} {cn : Nat × Nat} {h : mi_H} {v : Int32} {i : mi_I} {dd lo hi : Int} {offs : Array Int} (hf : mi_find q.2 pc = some i) (hi0 : i.1 = .tableswitch dd lo hi offs) (hv : v.toInt < lo ∨ hi < v.toInt) (t : Nat) (ht : mi_to pc dd = some t) (k : mi_Sem N (d + 1) q rv h1 (t, ls, r, cn, h)) : mi_Sem N (d + 1) q rv h1 (pc, ls, .int v :: r, cn, h) := by
  refine mi_sem_step hq (mi_calok_none N d) (x1 := (t, ls, r, cn, h)) ?_ k
  unfold mi_step
  dsimp only
  rw [hf]
  dsimp only
  rw [hi0]
  have e : mi_pure (.tableswitch dd lo hi offs) pc q.1.2.2.1 ls (.int v :: r) = some (t, ls, r) := by
    simp only [mi_pure]
    rw [decide_eq_true hv]
    dsimp only
    rw [ht]
  rw [e]
theorem mi_sem_perm {N : mi_N} {d : Nat} {q : mi_M × List (Nat × mi_I)} {rv : Option Value} {h1 : mi_H} {pc : Nat} {ls : mi_L} {st : List Value} {cn : Nat × Nat} {h : mi_H} (ls1 : mi_L) (hs : ∀ z ∈ ls1, z ∈ ls) (k : mi_Sem N d q rv h1 (pc, ls1, st, cn, h)) : mi_Sem N d q rv h1 (pc, ls, st, cn, h) := by
  intro base ra cT D p l e s m args below meth c cx hr hlocks hini H locs ar hsz hP hKA hS har
  refine k base ra cT D p l e s m args below meth c cx hr hlocks hini H locs ar hsz hP hKA hS ⟨har.1, har.2.1, fun z hz => ?_⟩
  obtain ⟨w, hw, rfl⟩ := List.mem_map.mp hz
  exact har.2.2 _ (List.mem_map.mpr ⟨w, hs w hw, rfl⟩)
theorem mi_offok {j : Int32} {n : Nat} (h0 : 0 ≤ j.toInt) (h1 : j.toInt < n) : mi_off j n = false := by
  unfold mi_off
  have a1 : decide (j < 0) = false := mi_ltF 0 (by decide) h0
  rw [a1]
  have a2 : j.toNatClampNeg < n := by
    show j.toInt.toNat < n
    omega
  show Nat.ble n j.toNatClampNeg = false
  cases e : Nat.ble n j.toNatClampNeg with
  | false => rfl
  | true =>
    have := Nat.le_of_ble_eq_true e
    omega
theorem mi_in1 : (mi_h1, mi_c1) ∈ mi_prog := List.mem_of_getElem? (i := 1) (by rfl)
theorem mi_in2 : (mi_h2, mi_c2) ∈ mi_prog := List.mem_of_getElem? (i := 2) (by rfl)
theorem mi_in3 : (mi_h3, mi_c3) ∈ mi_prog := List.mem_of_getElem? (i := 3) (by rfl)
theorem mi_in5 : (mi_h5, mi_c5) ∈ mi_prog := List.mem_of_getElem? (i := 5) (by rfl)
theorem mi_in6 : (mi_h6, mi_c6) ∈ mi_prog := List.mem_of_getElem? (i := 6) (by rfl)
theorem mi_in8 : (mi_h8, mi_c8) ∈ mi_prog := List.mem_of_getElem? (i := 8) (by rfl)
theorem mi_in9 : (mi_h9, mi_c9) ∈ mi_prog := List.mem_of_getElem? (i := 9) (by rfl)
theorem mi_in10 : (mi_h10, mi_c10) ∈ mi_prog := List.mem_of_getElem? (i := 10) (by rfl)
theorem mi_in11 : (mi_h11, mi_c11) ∈ mi_prog := List.mem_of_getElem? (i := 11) (by rfl)
theorem mi_in12 : (mi_h12, mi_c12) ∈ mi_prog := List.mem_of_getElem? (i := 12) (by rfl)
theorem mi_in13 : (mi_h13, mi_c13) ∈ mi_prog := List.mem_of_getElem? (i := 13) (by rfl)
theorem mi_in14 : (mi_h14, mi_c14) ∈ mi_prog := List.mem_of_getElem? (i := 14) (by rfl)
theorem mi_in16 : (mi_h16, mi_c16) ∈ mi_prog := List.mem_of_getElem? (i := 16) (by rfl)
theorem mi_in17 : (mi_h17, mi_c17) ∈ mi_prog := List.mem_of_getElem? (i := 17) (by rfl)
theorem mi_in18 : (mi_h18, mi_c18) ∈ mi_prog := List.mem_of_getElem? (i := 18) (by rfl)
theorem mi_in19 : (mi_h19, mi_c19) ∈ mi_prog := List.mem_of_getElem? (i := 19) (by rfl)
theorem mi_in20 : (mi_h20, mi_c20) ∈ mi_prog := List.mem_of_getElem? (i := 20) (by rfl)
theorem mi_in21 : (mi_h21, mi_c21) ∈ mi_prog := List.mem_of_getElem? (i := 21) (by rfl)
theorem mi_in22 : (mi_h22, mi_c22) ∈ mi_prog := List.mem_of_getElem? (i := 22) (by rfl)
theorem mi_in24 : (mi_h24, mi_c24) ∈ mi_prog := List.mem_of_getElem? (i := 24) (by rfl)
theorem mi_in25 : (mi_h25, mi_c25) ∈ mi_prog := List.mem_of_getElem? (i := 25) (by rfl)
theorem mi_in26 : (mi_h26, mi_c26) ∈ mi_prog := List.mem_of_getElem? (i := 26) (by rfl)
theorem mi_in27 : (mi_h27, mi_c27) ∈ mi_prog := List.mem_of_getElem? (i := 27) (by rfl)
theorem mi_in28 : (mi_h28, mi_c28) ∈ mi_prog := List.mem_of_getElem? (i := 28) (by rfl)
theorem mi_in29 : (mi_h29, mi_c29) ∈ mi_prog := List.mem_of_getElem? (i := 29) (by rfl)
theorem mi_in30 : (mi_h30, mi_c30) ∈ mi_prog := List.mem_of_getElem? (i := 30) (by rfl)
theorem mi_in31 : (mi_h31, mi_c31) ∈ mi_prog := List.mem_of_getElem? (i := 31) (by rfl)
theorem mi_in32 : (mi_h32, mi_c32) ∈ mi_prog := List.mem_of_getElem? (i := 32) (by rfl)
theorem mi_in33 : (mi_h33, mi_c33) ∈ mi_prog := List.mem_of_getElem? (i := 33) (by rfl)
theorem mi_in34 : (mi_h34, mi_c34) ∈ mi_prog := List.mem_of_getElem? (i := 34) (by rfl)
theorem mi_in36 : (mi_h36, mi_c36) ∈ mi_prog := List.mem_of_getElem? (i := 36) (by rfl)
theorem mi_in37 : (mi_h37, mi_c37) ∈ mi_prog := List.mem_of_getElem? (i := 37) (by rfl)
theorem mi_in38 : (mi_h38, mi_c38) ∈ mi_prog := List.mem_of_getElem? (i := 38) (by rfl)
theorem mi_in39 : (mi_h39, mi_c39) ∈ mi_prog := List.mem_of_getElem? (i := 39) (by rfl)
theorem mi_in40 : (mi_h40, mi_c40) ∈ mi_prog := List.mem_of_getElem? (i := 40) (by rfl)
theorem mi_in42 : (mi_h42, mi_c42) ∈ mi_prog := List.mem_of_getElem? (i := 42) (by rfl)
theorem mi_in43 : (mi_h43, mi_c43) ∈ mi_prog := List.mem_of_getElem? (i := 43) (by rfl)
theorem mi_in44 : (mi_h44, mi_c44) ∈ mi_prog := List.mem_of_getElem? (i := 44) (by rfl)
theorem mi_in45 : (mi_h45, mi_c45) ∈ mi_prog := List.mem_of_getElem? (i := 45) (by rfl)
theorem mi_in46 : (mi_h46, mi_c46) ∈ mi_prog := List.mem_of_getElem? (i := 46) (by rfl)
theorem mi_in47 : (mi_h47, mi_c47) ∈ mi_prog := List.mem_of_getElem? (i := 47) (by rfl)
theorem mi_in48 : (mi_h48, mi_c48) ∈ mi_prog := List.mem_of_getElem? (i := 48) (by rfl)
theorem mi_in49 : (mi_h49, mi_c49) ∈ mi_prog := List.mem_of_getElem? (i := 49) (by rfl)
theorem mi_in50 : (mi_h50, mi_c50) ∈ mi_prog := List.mem_of_getElem? (i := 50) (by rfl)
theorem mi_in51 : (mi_h51, mi_c51) ∈ mi_prog := List.mem_of_getElem? (i := 51) (by rfl)
theorem mi_in52 : (mi_h52, mi_c52) ∈ mi_prog := List.mem_of_getElem? (i := 52) (by rfl)
theorem mi_in53 : (mi_h53, mi_c53) ∈ mi_prog := List.mem_of_getElem? (i := 53) (by rfl)
theorem mi_in54 : (mi_h54, mi_c54) ∈ mi_prog := List.mem_of_getElem? (i := 54) (by rfl)
theorem mi_in55 : (mi_h55, mi_c55) ∈ mi_prog := List.mem_of_getElem? (i := 55) (by rfl)
theorem mi_in56 : (mi_h56, mi_c56) ∈ mi_prog := List.mem_of_getElem? (i := 56) (by rfl)
theorem mi_in58 : (mi_h58, mi_c58) ∈ mi_prog := List.mem_of_getElem? (i := 58) (by rfl)
theorem mi_in59 : (mi_h59, mi_c59) ∈ mi_prog := List.mem_of_getElem? (i := 59) (by rfl)
theorem mi_in60 : (mi_h60, mi_c60) ∈ mi_prog := List.mem_of_getElem? (i := 60) (by rfl)
theorem mi_in61 : (mi_h61, mi_c61) ∈ mi_prog := List.mem_of_getElem? (i := 61) (by rfl)
theorem mi_in62 : (mi_h62, mi_c62) ∈ mi_prog := List.mem_of_getElem? (i := 62) (by rfl)
theorem mi_in63 : (mi_h63, mi_c63) ∈ mi_prog := List.mem_of_getElem? (i := 63) (by rfl)
theorem mi_in64 : (mi_h64, mi_c64) ∈ mi_prog := List.mem_of_getElem? (i := 64) (by rfl)
theorem mi_in65 : (mi_h65, mi_c65) ∈ mi_prog := List.mem_of_getElem? (i := 65) (by rfl)
theorem mi_in66 : (mi_h66, mi_c66) ∈ mi_prog := List.mem_of_getElem? (i := 66) (by rfl)
theorem mi_in67 : (mi_h67, mi_c67) ∈ mi_prog := List.mem_of_getElem? (i := 67) (by rfl)
theorem mi_in68 : (mi_h68, mi_c68) ∈ mi_prog := List.mem_of_getElem? (i := 68) (by rfl)
theorem mi_in69 : (mi_h69, mi_c69) ∈ mi_prog := List.mem_of_getElem? (i := 69) (by rfl)
theorem mi_in70 : (mi_h70, mi_c70) ∈ mi_prog := List.mem_of_getElem? (i := 70) (by rfl)
theorem mi_in71 : (mi_h71, mi_c71) ∈ mi_prog := List.mem_of_getElem? (i := 71) (by rfl)
theorem mi_in72 : (mi_h72, mi_c72) ∈ mi_prog := List.mem_of_getElem? (i := 72) (by rfl)
theorem mi_in73 : (mi_h73, mi_c73) ∈ mi_prog := List.mem_of_getElem? (i := 73) (by rfl)
theorem mi_in74 : (mi_h74, mi_c74) ∈ mi_prog := List.mem_of_getElem? (i := 74) (by rfl)
theorem mi_in75 : (mi_h75, mi_c75) ∈ mi_prog := List.mem_of_getElem? (i := 75) (by rfl)
theorem mi_in76 : (mi_h76, mi_c76) ∈ mi_prog := List.mem_of_getElem? (i := 76) (by rfl)
theorem mi_in77 : (mi_h77, mi_c77) ∈ mi_prog := List.mem_of_getElem? (i := 77) (by rfl)
theorem mi_in78 : (mi_h78, mi_c78) ∈ mi_prog := List.mem_of_getElem? (i := 78) (by rfl)
theorem mi_in80 : (mi_h80, mi_c80) ∈ mi_prog := List.mem_of_getElem? (i := 80) (by rfl)
theorem mi_in81 : (mi_h81, mi_c81) ∈ mi_prog := List.mem_of_getElem? (i := 81) (by rfl)
theorem mi_in82 : (mi_h82, mi_c82) ∈ mi_prog := List.mem_of_getElem? (i := 82) (by rfl)
theorem mi_in83 : (mi_h83, mi_c83) ∈ mi_prog := List.mem_of_getElem? (i := 83) (by rfl)
theorem mi_in84 : (mi_h84, mi_c84) ∈ mi_prog := List.mem_of_getElem? (i := 84) (by rfl)
theorem mi_in85 : (mi_h85, mi_c85) ∈ mi_prog := List.mem_of_getElem? (i := 85) (by rfl)
theorem mi_in86 : (mi_h86, mi_c86) ∈ mi_prog := List.mem_of_getElem? (i := 86) (by rfl)
theorem mi_in87 : (mi_h87, mi_c87) ∈ mi_prog := List.mem_of_getElem? (i := 87) (by rfl)
theorem mi_in88 : (mi_h88, mi_c88) ∈ mi_prog := List.mem_of_getElem? (i := 88) (by rfl)
theorem mi_in89 : (mi_h89, mi_c89) ∈ mi_prog := List.mem_of_getElem? (i := 89) (by rfl)
theorem mi_in90 : (mi_h90, mi_c90) ∈ mi_prog := List.mem_of_getElem? (i := 90) (by rfl)
theorem mi_in91 : (mi_h91, mi_c91) ∈ mi_prog := List.mem_of_getElem? (i := 91) (by rfl)
theorem mi_in92 : (mi_h92, mi_c92) ∈ mi_prog := List.mem_of_getElem? (i := 92) (by rfl)
theorem mi_in93 : (mi_h93, mi_c93) ∈ mi_prog := List.mem_of_getElem? (i := 93) (by rfl)
theorem mi_in94 : (mi_h94, mi_c94) ∈ mi_prog := List.mem_of_getElem? (i := 94) (by rfl)
theorem mi_in95 : (mi_h95, mi_c95) ∈ mi_prog := List.mem_of_getElem? (i := 95) (by rfl)
theorem mi_in96 : (mi_h96, mi_c96) ∈ mi_prog := List.mem_of_getElem? (i := 96) (by rfl)
theorem mi_in97 : (mi_h97, mi_c97) ∈ mi_prog := List.mem_of_getElem? (i := 97) (by rfl)
theorem mi_in98 : (mi_h98, mi_c98) ∈ mi_prog := List.mem_of_getElem? (i := 98) (by rfl)
theorem mi_in99 : (mi_h99, mi_c99) ∈ mi_prog := List.mem_of_getElem? (i := 99) (by rfl)
theorem mi_in100 : (mi_h100, mi_c100) ∈ mi_prog := List.mem_of_getElem? (i := 100) (by rfl)
theorem mi_in101 : (mi_h101, mi_c101) ∈ mi_prog := List.mem_of_getElem? (i := 101) (by rfl)
theorem mi_in102 : (mi_h102, mi_c102) ∈ mi_prog := List.mem_of_getElem? (i := 102) (by rfl)
theorem mi_in103 : (mi_h103, mi_c103) ∈ mi_prog := List.mem_of_getElem? (i := 103) (by rfl)
theorem mi_in104 : (mi_h104, mi_c104) ∈ mi_prog := List.mem_of_getElem? (i := 104) (by rfl)
theorem mi_in105 : (mi_h105, mi_c105) ∈ mi_prog := List.mem_of_getElem? (i := 105) (by rfl)
theorem mi_in106 : (mi_h106, mi_c106) ∈ mi_prog := List.mem_of_getElem? (i := 106) (by rfl)
theorem mi_in107 : (mi_h107, mi_c107) ∈ mi_prog := List.mem_of_getElem? (i := 107) (by rfl)
theorem mi_in108 : (mi_h108, mi_c108) ∈ mi_prog := List.mem_of_getElem? (i := 108) (by rfl)
theorem mi_in109 : (mi_h109, mi_c109) ∈ mi_prog := List.mem_of_getElem? (i := 109) (by rfl)
theorem mi_in110 : (mi_h110, mi_c110) ∈ mi_prog := List.mem_of_getElem? (i := 110) (by rfl)
theorem mi_in111 : (mi_h111, mi_c111) ∈ mi_prog := List.mem_of_getElem? (i := 111) (by rfl)
theorem mi_in112 : (mi_h112, mi_c112) ∈ mi_prog := List.mem_of_getElem? (i := 112) (by rfl)
theorem mi_in113 : (mi_h113, mi_c113) ∈ mi_prog := List.mem_of_getElem? (i := 113) (by rfl)
theorem mi_in114 : (mi_h114, mi_c114) ∈ mi_prog := List.mem_of_getElem? (i := 114) (by rfl)
theorem mi_in115 : (mi_h115, mi_c115) ∈ mi_prog := List.mem_of_getElem? (i := 115) (by rfl)
theorem mi_in116 : (mi_h116, mi_c116) ∈ mi_prog := List.mem_of_getElem? (i := 116) (by rfl)
theorem mi_in117 : (mi_h117, mi_c117) ∈ mi_prog := List.mem_of_getElem? (i := 117) (by rfl)
theorem mi_in118 : (mi_h118, mi_c118) ∈ mi_prog := List.mem_of_getElem? (i := 118) (by rfl)
theorem mi_in119 : (mi_h119, mi_c119) ∈ mi_prog := List.mem_of_getElem? (i := 119) (by rfl)
theorem mi_in120 : (mi_h120, mi_c120) ∈ mi_prog := List.mem_of_getElem? (i := 120) (by rfl)
theorem mi_in121 : (mi_h121, mi_c121) ∈ mi_prog := List.mem_of_getElem? (i := 121) (by rfl)
theorem mi_in122 : (mi_h122, mi_c122) ∈ mi_prog := List.mem_of_getElem? (i := 122) (by rfl)
theorem mi_in123 : (mi_h123, mi_c123) ∈ mi_prog := List.mem_of_getElem? (i := 123) (by rfl)
theorem mi_in124 : (mi_h124, mi_c124) ∈ mi_prog := List.mem_of_getElem? (i := 124) (by rfl)
theorem mi_in125 : (mi_h125, mi_c125) ∈ mi_prog := List.mem_of_getElem? (i := 125) (by rfl)
theorem mi_in126 : (mi_h126, mi_c126) ∈ mi_prog := List.mem_of_getElem? (i := 126) (by rfl)
theorem mi_in127 : (mi_h127, mi_c127) ∈ mi_prog := List.mem_of_getElem? (i := 127) (by rfl)
theorem mi_in128 : (mi_h128, mi_c128) ∈ mi_prog := List.mem_of_getElem? (i := 128) (by rfl)
theorem mi_in129 : (mi_h129, mi_c129) ∈ mi_prog := List.mem_of_getElem? (i := 129) (by rfl)
theorem mi_in131 : (mi_h131, mi_c131) ∈ mi_prog := List.mem_of_getElem? (i := 131) (by rfl)
theorem mi_in132 : (mi_h132, mi_c132) ∈ mi_prog := List.mem_of_getElem? (i := 132) (by rfl)
theorem mi_in133 : (mi_h133, mi_c133) ∈ mi_prog := List.mem_of_getElem? (i := 133) (by rfl)
theorem mi_in134 : (mi_h134, mi_c134) ∈ mi_prog := List.mem_of_getElem? (i := 134) (by rfl)
theorem mi_in135 : (mi_h135, mi_c135) ∈ mi_prog := List.mem_of_getElem? (i := 135) (by rfl)
theorem mi_in136 : (mi_h136, mi_c136) ∈ mi_prog := List.mem_of_getElem? (i := 136) (by rfl)
theorem mi_in137 : (mi_h137, mi_c137) ∈ mi_prog := List.mem_of_getElem? (i := 137) (by rfl)
theorem mi_in138 : (mi_h138, mi_c138) ∈ mi_prog := List.mem_of_getElem? (i := 138) (by rfl)
theorem mi_in139 : (mi_h139, mi_c139) ∈ mi_prog := List.mem_of_getElem? (i := 139) (by rfl)
theorem mi_in140 : (mi_h140, mi_c140) ∈ mi_prog := List.mem_of_getElem? (i := 140) (by rfl)
theorem mi_in141 : (mi_h141, mi_c141) ∈ mi_prog := List.mem_of_getElem? (i := 141) (by rfl)
theorem mi_in142 : (mi_h142, mi_c142) ∈ mi_prog := List.mem_of_getElem? (i := 142) (by rfl)
theorem mi_in143 : (mi_h143, mi_c143) ∈ mi_prog := List.mem_of_getElem? (i := 143) (by rfl)
theorem mi_in144 : (mi_h144, mi_c144) ∈ mi_prog := List.mem_of_getElem? (i := 144) (by rfl)
theorem mi_in145 : (mi_h145, mi_c145) ∈ mi_prog := List.mem_of_getElem? (i := 145) (by rfl)
theorem mi_in146 : (mi_h146, mi_c146) ∈ mi_prog := List.mem_of_getElem? (i := 146) (by rfl)
theorem mi_in147 : (mi_h147, mi_c147) ∈ mi_prog := List.mem_of_getElem? (i := 147) (by rfl)
theorem mi_in148 : (mi_h148, mi_c148) ∈ mi_prog := List.mem_of_getElem? (i := 148) (by rfl)
theorem mi_in149 : (mi_h149, mi_c149) ∈ mi_prog := List.mem_of_getElem? (i := 149) (by rfl)
theorem mi_in150 : (mi_h150, mi_c150) ∈ mi_prog := List.mem_of_getElem? (i := 150) (by rfl)
theorem mi_in151 : (mi_h151, mi_c151) ∈ mi_prog := List.mem_of_getElem? (i := 151) (by rfl)
theorem mi_in152 : (mi_h152, mi_c152) ∈ mi_prog := List.mem_of_getElem? (i := 152) (by rfl)
theorem mi_in153 : (mi_h153, mi_c153) ∈ mi_prog := List.mem_of_getElem? (i := 153) (by rfl)
theorem mi_in154 : (mi_h154, mi_c154) ∈ mi_prog := List.mem_of_getElem? (i := 154) (by rfl)
theorem mi_in155 : (mi_h155, mi_c155) ∈ mi_prog := List.mem_of_getElem? (i := 155) (by rfl)
theorem mi_in156 : (mi_h156, mi_c156) ∈ mi_prog := List.mem_of_getElem? (i := 156) (by rfl)
theorem mi_in157 : (mi_h157, mi_c157) ∈ mi_prog := List.mem_of_getElem? (i := 157) (by rfl)
theorem mi_in158 : (mi_h158, mi_c158) ∈ mi_prog := List.mem_of_getElem? (i := 158) (by rfl)
theorem mi_in159 : (mi_h159, mi_c159) ∈ mi_prog := List.mem_of_getElem? (i := 159) (by rfl)
theorem mi_in160 : (mi_h160, mi_c160) ∈ mi_prog := List.mem_of_getElem? (i := 160) (by rfl)
theorem mi_in161 : (mi_h161, mi_c161) ∈ mi_prog := List.mem_of_getElem? (i := 161) (by rfl)
theorem mi_in162 : (mi_h162, mi_c162) ∈ mi_prog := List.mem_of_getElem? (i := 162) (by rfl)
theorem mi_in163 : (mi_h163, mi_c163) ∈ mi_prog := List.mem_of_getElem? (i := 163) (by rfl)
theorem mi_in164 : (mi_h164, mi_c164) ∈ mi_prog := List.mem_of_getElem? (i := 164) (by rfl)
theorem mi_in165 : (mi_h165, mi_c165) ∈ mi_prog := List.mem_of_getElem? (i := 165) (by rfl)
theorem mi_in166 : (mi_h166, mi_c166) ∈ mi_prog := List.mem_of_getElem? (i := 166) (by rfl)
theorem mi_in167 : (mi_h167, mi_c167) ∈ mi_prog := List.mem_of_getElem? (i := 167) (by rfl)
theorem mi_in168 : (mi_h168, mi_c168) ∈ mi_prog := List.mem_of_getElem? (i := 168) (by rfl)
theorem mi_in169 : (mi_h169, mi_c169) ∈ mi_prog := List.mem_of_getElem? (i := 169) (by rfl)
theorem mi_in170 : (mi_h170, mi_c170) ∈ mi_prog := List.mem_of_getElem? (i := 170) (by rfl)
theorem mi_in171 : (mi_h171, mi_c171) ∈ mi_prog := List.mem_of_getElem? (i := 171) (by rfl)
theorem mi_in172 : (mi_h172, mi_c172) ∈ mi_prog := List.mem_of_getElem? (i := 172) (by rfl)
theorem mi_in173 : (mi_h173, mi_c173) ∈ mi_prog := List.mem_of_getElem? (i := 173) (by rfl)
theorem mi_in174 : (mi_h174, mi_c174) ∈ mi_prog := List.mem_of_getElem? (i := 174) (by rfl)
theorem mi_in175 : (mi_h175, mi_c175) ∈ mi_prog := List.mem_of_getElem? (i := 175) (by rfl)
theorem mi_in176 : (mi_h176, mi_c176) ∈ mi_prog := List.mem_of_getElem? (i := 176) (by rfl)
theorem mi_in177 : (mi_h177, mi_c177) ∈ mi_prog := List.mem_of_getElem? (i := 177) (by rfl)
theorem mi_in178 : (mi_h178, mi_c178) ∈ mi_prog := List.mem_of_getElem? (i := 178) (by rfl)
theorem mi_in179 : (mi_h179, mi_c179) ∈ mi_prog := List.mem_of_getElem? (i := 179) (by rfl)
theorem mi_in180 : (mi_h180, mi_c180) ∈ mi_prog := List.mem_of_getElem? (i := 180) (by rfl)
theorem mi_in181 : (mi_h181, mi_c181) ∈ mi_prog := List.mem_of_getElem? (i := 181) (by rfl)
theorem mi_in182 : (mi_h182, mi_c182) ∈ mi_prog := List.mem_of_getElem? (i := 182) (by rfl)
theorem mi_in183 : (mi_h183, mi_c183) ∈ mi_prog := List.mem_of_getElem? (i := 183) (by rfl)
theorem mi_in184 : (mi_h184, mi_c184) ∈ mi_prog := List.mem_of_getElem? (i := 184) (by rfl)
theorem mi_in185 : (mi_h185, mi_c185) ∈ mi_prog := List.mem_of_getElem? (i := 185) (by rfl)
theorem mi_in186 : (mi_h186, mi_c186) ∈ mi_prog := List.mem_of_getElem? (i := 186) (by rfl)
theorem mi_in187 : (mi_h187, mi_c187) ∈ mi_prog := List.mem_of_getElem? (i := 187) (by rfl)
theorem mi_in188 : (mi_h188, mi_c188) ∈ mi_prog := List.mem_of_getElem? (i := 188) (by rfl)
theorem mi_in189 : (mi_h189, mi_c189) ∈ mi_prog := List.mem_of_getElem? (i := 189) (by rfl)
theorem mi_in190 : (mi_h190, mi_c190) ∈ mi_prog := List.mem_of_getElem? (i := 190) (by rfl)
theorem mi_in191 : (mi_h191, mi_c191) ∈ mi_prog := List.mem_of_getElem? (i := 191) (by rfl)
theorem mi_in192 : (mi_h192, mi_c192) ∈ mi_prog := List.mem_of_getElem? (i := 192) (by rfl)
theorem mi_in193 : (mi_h193, mi_c193) ∈ mi_prog := List.mem_of_getElem? (i := 193) (by rfl)
theorem mi_in194 : (mi_h194, mi_c194) ∈ mi_prog := List.mem_of_getElem? (i := 194) (by rfl)
theorem mi_in195 : (mi_h195, mi_c195) ∈ mi_prog := List.mem_of_getElem? (i := 195) (by rfl)
theorem mi_in196 : (mi_h196, mi_c196) ∈ mi_prog := List.mem_of_getElem? (i := 196) (by rfl)
theorem mi_in197 : (mi_h197, mi_c197) ∈ mi_prog := List.mem_of_getElem? (i := 197) (by rfl)
theorem mi_in198 : (mi_h198, mi_c198) ∈ mi_prog := List.mem_of_getElem? (i := 198) (by rfl)
theorem mi_in199 : (mi_h199, mi_c199) ∈ mi_prog := List.mem_of_getElem? (i := 199) (by rfl)
theorem mi_in200 : (mi_h200, mi_c200) ∈ mi_prog := List.mem_of_getElem? (i := 200) (by rfl)
theorem mi_in201 : (mi_h201, mi_c201) ∈ mi_prog := List.mem_of_getElem? (i := 201) (by rfl)
theorem mi_in202 : (mi_h202, mi_c202) ∈ mi_prog := List.mem_of_getElem? (i := 202) (by rfl)
theorem mi_in203 : (mi_h203, mi_c203) ∈ mi_prog := List.mem_of_getElem? (i := 203) (by rfl)
theorem mi_in204 : (mi_h204, mi_c204) ∈ mi_prog := List.mem_of_getElem? (i := 204) (by rfl)
theorem mi_in205 : (mi_h205, mi_c205) ∈ mi_prog := List.mem_of_getElem? (i := 205) (by rfl)
theorem mi_in206 : (mi_h206, mi_c206) ∈ mi_prog := List.mem_of_getElem? (i := 206) (by rfl)
theorem mi_in207 : (mi_h207, mi_c207) ∈ mi_prog := List.mem_of_getElem? (i := 207) (by rfl)
theorem mi_in208 : (mi_h208, mi_c208) ∈ mi_prog := List.mem_of_getElem? (i := 208) (by rfl)
theorem mi_in209 : (mi_h209, mi_c209) ∈ mi_prog := List.mem_of_getElem? (i := 209) (by rfl)
theorem mi_in210 : (mi_h210, mi_c210) ∈ mi_prog := List.mem_of_getElem? (i := 210) (by rfl)
theorem mi_in211 : (mi_h211, mi_c211) ∈ mi_prog := List.mem_of_getElem? (i := 211) (by rfl)
theorem mi_in212 : (mi_h212, mi_c212) ∈ mi_prog := List.mem_of_getElem? (i := 212) (by rfl)
theorem mi_in213 : (mi_h213, mi_c213) ∈ mi_prog := List.mem_of_getElem? (i := 213) (by rfl)
theorem mi_in214 : (mi_h214, mi_c214) ∈ mi_prog := List.mem_of_getElem? (i := 214) (by rfl)
theorem mi_in215 : (mi_h215, mi_c215) ∈ mi_prog := List.mem_of_getElem? (i := 215) (by rfl)
theorem mi_in216 : (mi_h216, mi_c216) ∈ mi_prog := List.mem_of_getElem? (i := 216) (by rfl)
theorem mi_in217 : (mi_h217, mi_c217) ∈ mi_prog := List.mem_of_getElem? (i := 217) (by rfl)
theorem mi_in218 : (mi_h218, mi_c218) ∈ mi_prog := List.mem_of_getElem? (i := 218) (by rfl)
theorem mi_in219 : (mi_h219, mi_c219) ∈ mi_prog := List.mem_of_getElem? (i := 219) (by rfl)
theorem mi_in220 : (mi_h220, mi_c220) ∈ mi_prog := List.mem_of_getElem? (i := 220) (by rfl)
theorem mi_in221 : (mi_h221, mi_c221) ∈ mi_prog := List.mem_of_getElem? (i := 221) (by rfl)
theorem mi_in222 : (mi_h222, mi_c222) ∈ mi_prog := List.mem_of_getElem? (i := 222) (by rfl)
theorem mi_in223 : (mi_h223, mi_c223) ∈ mi_prog := List.mem_of_getElem? (i := 223) (by rfl)
theorem mi_in224 : (mi_h224, mi_c224) ∈ mi_prog := List.mem_of_getElem? (i := 224) (by rfl)
theorem mi_in225 : (mi_h225, mi_c225) ∈ mi_prog := List.mem_of_getElem? (i := 225) (by rfl)
theorem mi_in226 : (mi_h226, mi_c226) ∈ mi_prog := List.mem_of_getElem? (i := 226) (by rfl)
theorem mi_in227 : (mi_h227, mi_c227) ∈ mi_prog := List.mem_of_getElem? (i := 227) (by rfl)
theorem mi_in228 : (mi_h228, mi_c228) ∈ mi_prog := List.mem_of_getElem? (i := 228) (by rfl)
theorem mi_in229 : (mi_h229, mi_c229) ∈ mi_prog := List.mem_of_getElem? (i := 229) (by rfl)
theorem mi_in230 : (mi_h230, mi_c230) ∈ mi_prog := List.mem_of_getElem? (i := 230) (by rfl)
theorem mi_in231 : (mi_h231, mi_c231) ∈ mi_prog := List.mem_of_getElem? (i := 231) (by rfl)
theorem mi_in232 : (mi_h232, mi_c232) ∈ mi_prog := List.mem_of_getElem? (i := 232) (by rfl)
theorem mi_in233 : (mi_h233, mi_c233) ∈ mi_prog := List.mem_of_getElem? (i := 233) (by rfl)
theorem mi_in234 : (mi_h234, mi_c234) ∈ mi_prog := List.mem_of_getElem? (i := 234) (by rfl)
theorem mi_in235 : (mi_h235, mi_cL) ∈ mi_prog := List.mem_of_getElem? (i := 235) (by rfl)

