/-! methods that write nothing: the heap stays the same -/
def kPI (h : mi_H) (Q : Int32 → Prop) (rv : Option Value) (h1 : mi_H) : Prop := ∃ v, rv = some (.int v) ∧ h1 = h ∧ Q v
def kPL (h : mi_H) (Q : Int64 → Prop) (rv : Option Value) (h1 : mi_H) : Prop := ∃ v, rv = some (.long v) ∧ h1 = h ∧ Q v
def kPR (h : mi_H) (Q : Nat → Prop) (rv : Option Value) (h1 : mi_H) : Prop := ∃ v, rv = some (.ref v) ∧ h1 = h ∧ Q v
section KP
variable {d d1 : Nat} {q : mi_M × List (Nat × mi_I)} {P : Option Value → mi_H → Prop}
theorem km_ofPI {y : Nat} (hq : mi_prog[y]? = some q) (hk3 : q.1.2.2.2.2.2.2.1 ≠ 3) {as : List Value} (hn : (lg_sl as).length ≤ q.1.2.2.1) {h : mi_H} {Q : Int32 → Prop} (k : ∀ P : Option Value → mi_H → Prop, (∀ v, Q v → P (some (.int v)) h) → ko d q P (0, lv_args 0 as, [], (0, 0), h)) : km d y as h (kPI h Q) :=
  km_of hq hk3 hn (k _ (fun v hQ => ⟨v, rfl, rfl, hQ⟩))
theorem km_ofPL {y : Nat} (hq : mi_prog[y]? = some q) (hk3 : q.1.2.2.2.2.2.2.1 ≠ 3) {as : List Value} (hn : (lg_sl as).length ≤ q.1.2.2.1) {h : mi_H} {Q : Int64 → Prop} (k : ∀ P : Option Value → mi_H → Prop, (∀ v, Q v → P (some (.long v)) h) → ko d q P (0, lv_args 0 as, [], (0, 0), h)) : km d y as h (kPL h Q) :=
  km_of hq hk3 hn (k _ (fun v hQ => ⟨v, rfl, rfl, hQ⟩))
theorem km_ofPR {y : Nat} (hq : mi_prog[y]? = some q) (hk3 : q.1.2.2.2.2.2.2.1 ≠ 3) {as : List Value} (hn : (lg_sl as).length ≤ q.1.2.2.1) {h : mi_H} {Q : Nat → Prop} (k : ∀ P : Option Value → mi_H → Prop, (∀ v, Q v → P (some (.ref v)) h) → ko d q P (0, lv_args 0 as, [], (0, 0), h)) : km d y as h (kPR h Q) :=
  km_of hq hk3 hn (k _ (fun v hQ => ⟨v, rfl, rfl, hQ⟩))
theorem ko_callPI (hq : q ∈ mi_prog) {pc : Nat} {ls : mi_L} {st : List Value} {h : mi_H} {i : mi_I} (hf : mi_find q.2 pc = some i) {y : Nat} {r : mi_M} {as rest : List Value} (hi : mi_inv mi_N0 i.1 i.2.2 st h = some (y, r, as, rest)) {cy : List (Nat × mi_I)} (hy : mi_prog[y]? = some (r, cy)) (hz : r.2.2.2.2.2.2.2 = (0, 0)) {Q : Int32 → Prop} (hM : km d1 y as h (kPI h Q)) (hd : d1 + 1 ≤ d)
    (k : ∀ v, Q v → ko d q P (pc + 3, ls, .int v :: rest, (0, 0), h)) : ko d q P (pc, ls, st, (0, 0), h) :=
  ko_callP hq hf hi hy hz hM hd (fun rv h2 ⟨v, e1, e2, hQ⟩ => by subst e1; subst e2; exact k v hQ)
theorem ko_callPL (hq : q ∈ mi_prog) {pc : Nat} {ls : mi_L} {st : List Value} {h : mi_H} {i : mi_I} (hf : mi_find q.2 pc = some i) {y : Nat} {r : mi_M} {as rest : List Value} (hi : mi_inv mi_N0 i.1 i.2.2 st h = some (y, r, as, rest)) {cy : List (Nat × mi_I)} (hy : mi_prog[y]? = some (r, cy)) (hz : r.2.2.2.2.2.2.2 = (0, 0)) {Q : Int64 → Prop} (hM : km d1 y as h (kPL h Q)) (hd : d1 + 1 ≤ d)
    (k : ∀ v, Q v → ko d q P (pc + 3, ls, .long v :: rest, (0, 0), h)) : ko d q P (pc, ls, st, (0, 0), h) :=
  ko_callP hq hf hi hy hz hM hd (fun rv h2 ⟨v, e1, e2, hQ⟩ => by subst e1; subst e2; exact k v hQ)
theorem ko_callPR (hq : q ∈ mi_prog) {pc : Nat} {ls : mi_L} {st : List Value} {h : mi_H} {i : mi_I} (hf : mi_find q.2 pc = some i) {y : Nat} {r : mi_M} {as rest : List Value} (hi : mi_inv mi_N0 i.1 i.2.2 st h = some (y, r, as, rest)) {cy : List (Nat × mi_I)} (hy : mi_prog[y]? = some (r, cy)) (hz : r.2.2.2.2.2.2.2 = (0, 0)) {Q : Nat → Prop} (hM : km d1 y as h (kPR h Q)) (hd : d1 + 1 ≤ d)
    (k : ∀ v, Q v → ko d q P (pc + 3, ls, .ref v :: rest, (0, 0), h)) : ko d q P (pc, ls, st, (0, 0), h) :=
  ko_callP hq hf hi hy hz hM hd (fun rv h2 ⟨v, e1, e2, hQ⟩ => by subst e1; subst e2; exact k v hQ)
theorem ko_alen (hq : q ∈ mi_prog) {pc : Nat} {ls : mi_L} {r : List Value} {cn : Nat × Nat} {h : mi_H} {a : Nat} {l : List Int32} {ax : mi_X} (hf : mi_find q.2 pc = some (.arraylength, 1, ax)) (hlo : Nat.blt a mi_RO = true) (ha : h[a]? = some (.inr (.int, .inl l))) {x : Int32} (hx : Int32.ofNat l.length = x) (k : ko (d + 1) q P (pc + 1, ls, .int x :: r, cn, h)) : ko (d + 1) q P (pc, ls, .ref a :: r, cn, h) := by
  subst hx
  refine ko_heap hq hf rfl ?_ k
  show mi_hAlen mi_N0 pc (.ref a :: r) cn h = _
  unfold mi_hAlen
  dsimp only
  rw [hlo]
  dsimp only
  rw [ha]
  rfl
end KP
section KQ
variable {d d1 : Nat} {q : mi_M × List (Nat × mi_I)} {P : Option Value → mi_H → Prop}
theorem ko_idiv (hq : q ∈ mi_prog) {pc : Nat} {ls : mi_L} {r : List Value} {cn : Nat × Nat} {h : mi_H} {x y : Int32} {ax : mi_X} (hf : mi_find q.2 pc = some (.idiv, 1, ax)) (hy : 1 ≤ y.toInt) (k : ko (d + 1) q P (pc + 1, ls, .int (x / y) :: r, cn, h)) : ko (d + 1) q P (pc, ls, .int y :: .int x :: r, cn, h) := by
  refine ko_steps hq 1 _ (pc + 1, ls, .int (x / y) :: r, cn, h) ?_ k
  show (match mi_step mi_N0 (fun _ _ _ => none) q (pc, ls, .int y :: .int x :: r, cn, h) with
    | some (.inl x1) => some x1
    | _ => none) = some (pc + 1, ls, .int (x / y) :: r, cn, h)
  have e : (y == 0) = false := beq_eq_false_iff_ne.mpr (fun z => by rw [z] at hy; revert hy; decide)
  unfold mi_step
  dsimp only
  rw [hf]
  have e2 : mi_pure .idiv pc q.1.2.2.1 ls (.int y :: .int x :: r) = some (pc + 1, ls, .int (x / y) :: r) := by
    simp only [mi_pure]
    rw [e]
  dsimp only
  rw [e2]
theorem ko_irem (hq : q ∈ mi_prog) {pc : Nat} {ls : mi_L} {r : List Value} {cn : Nat × Nat} {h : mi_H} {x y : Int32} {ax : mi_X} (hf : mi_find q.2 pc = some (.irem, 1, ax)) (hy : 1 ≤ y.toInt) (k : ko (d + 1) q P (pc + 1, ls, .int (x - x / y * y) :: r, cn, h)) : ko (d + 1) q P (pc, ls, .int y :: .int x :: r, cn, h) := by
  refine ko_steps hq 1 _ (pc + 1, ls, .int (x - x / y * y) :: r, cn, h) ?_ k
  show (match mi_step mi_N0 (fun _ _ _ => none) q (pc, ls, .int y :: .int x :: r, cn, h) with
    | some (.inl x1) => some x1
    | _ => none) = some (pc + 1, ls, .int (x - x / y * y) :: r, cn, h)
  have e : (y == 0) = false := beq_eq_false_iff_ne.mpr (fun z => by rw [z] at hy; revert hy; decide)
  unfold mi_step
  dsimp only
  rw [hf]
  have e2 : mi_pure .irem pc q.1.2.2.1 ls (.int y :: .int x :: r) = some (pc + 1, ls, .int (x - x / y * y) :: r) := by
    simp only [mi_pure]
    rw [e]
  dsimp only
  rw [e2]
end KQ
def kro (l : List Int32) (lo hi : Int) : Bool := (l.all (fun x => decide (lo ≤ x.toInt) && decide (x.toInt ≤ hi))) && (decide (lo ≤ 0) && decide (0 ≤ hi))
theorem kro_rng {l : List Int32} {lo hi : Int} (h : kro l lo hi = true) (j : Nat) : lo ≤ (l.getD j 0).toInt ∧ (l.getD j 0).toInt ≤ hi := by
  obtain ⟨h1, h2⟩ := Bool.and_eq_true_iff.mp h
  obtain ⟨h2, h3⟩ := Bool.and_eq_true_iff.mp h2
  rw [List.getD_eq_getElem?_getD]
  cases e : l[j]? with
  | none => exact ⟨of_decide_eq_true h2, of_decide_eq_true h3⟩
  | some x =>
    obtain ⟨a, b⟩ := Bool.and_eq_true_iff.mp (List.all_eq_true.mp h1 x (List.mem_of_getElem? e))
    exact ⟨of_decide_eq_true a, of_decide_eq_true b⟩
theorem kG_r2 {w : kW} {i0 i : Nat → Int32} {a0 a : Nat → List Int32} {q0 q : Nat → List Int64} {r0 r : Nat → Nat} (h : kG w i0 a0 q0 r0 i a q r) (p : Nat) (hk : kM w.2.2.2 p = true) (p2 : Nat) (hk2 : kM w.2.2.2 p2 = true) {v v2 : Nat} (hv : kr (ku (ku r p v) p2 v2)) : kG w i0 a0 q0 r0 i a q (ku (ku r p v) p2 v2) := by
  refine ⟨⟨h.1.1, hv⟩, h.2.1, h.2.2.1, h.2.2.2.1, fun n hn => ?_⟩
  rw [ku_other _ _ (fun e => by rw [e, hk2] at hn; cases hn), ku_other r _ (fun e => by rw [e, hk] at hn; cases hn)]
  exact h.2.2.2.2 n hn
