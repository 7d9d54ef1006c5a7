/-! methods that write nothing: the heap stays the same -/
def kPI (h : mi_H) (Q : Int32 → Prop) (rv : Option Value) (h1 : mi_H) : Prop := ∃ v, rv = some (.int v) ∧ h1 = h ∧ Q v
def kPL (h : mi_H) (Q : Int64 → Prop) (rv : Option Value) (h1 : mi_H) : Prop := ∃ v, rv = some (.long v) ∧ h1 = h ∧ Q v
def kPR (h : mi_H) (Q : Nat → Prop) (rv : Option Value) (h1 : mi_H) : Prop := ∃ v, rv = some (.ref v) ∧ h1 = h ∧ Q v
section KP
variable {d d1 : Nat} {q : mi_M × List (Nat × mi_I)} {P : Option Value → mi_H → Prop}
theorem km_ofPI {y : Nat} (hq : mi_prog[y]? = some q) (hk3 : q.1.2.2.2.2.2.2.1 ≠ 3) {as : List Value} (hn : (lg_sl as).length ≤ q.1.2.2.1) {h : mi_H} {Q : Int32 → Prop} (k : ∀ P : Option Value → mi_H → Prop, (∀ v, Q v → P (some (.int v)) h) → ko d q P (0, lv_args 0 as, [], (0, 0), h)) : km d y as h (kPI h Q) :=
  km_of hq hk3 hn (k _ (fun v hQ => ⟨v, rfl, rfl, hQ⟩))
theorem km_ofPL {y : Nat} (hq : mi_prog[y]? = some q) (hk3 : q.1.2.2.2.2.2.2.1 ≠ 3) {as : List Value} (hn : (lg_sl as).length ≤ q.1.2.2.1) {h : mi_H} {Q : Int64 → Prop} (k : ∀ P : Option Value → mi_H → Prop, (∀ v, Q v → P (some (.long v)) h) → ko d q P (0, lv_args 0 as, [], (0, 0), h)) : km d y as h (kPL h Q) :=
  km_of hq hk3 hn (k _ (fun v hQ => ⟨v, rfl, rfl, hQ⟩))
theorem km_ofPR {y : Nat} (hq : mi_prog[y]? = some q) (hk3 : q.1.2.2.2.2.2.2.1 ≠ 3) {as : List Value} (hn : (lg_sl as).length ≤ q.1.2.2.1) {h : mi_H} {Q : Nat → Prop} (k : ∀ P : Option Value → mi_H → Prop, (∀ v, Q v → P (some (.ref v)) h) → ko d q P (0, lv_args 0 as, [], (0, 0), h)) : km d y as h (kPR h Q) :=
  km_of hq hk3 hn (k _ (fun v hQ => ⟨v, rfl, rfl, hQ⟩))
theorem ko_callPI (hq : q ∈ mi_prog) {pc : Nat} {ls : mi_L} {st : List Value} {h : mi_H} {i : mi_I} (hf : mi_find q.2 pc = some i) {y : Nat} {r : mi_M} {as rest : List Value} (hi : mi_inv mi_N0 i.1 i.2.2 st h = some (y, r, as, rest)) {cy : List (Nat × mi_I)} (hy : mi_prog[y]? = some (r, cy)) (hz : r.2.2.2.2.2.2.2 = (0, 0)) {Q : Int32 → Prop} (hM : km d1 y as h (kPI h Q)) (hd : d1 + 1 ≤ d)
    (k : ∀ v, Q v → ko d q P (pc + 3, ls, .int v :: rest, (0, 0), h)) : ko d q P (pc, ls, st, (0, 0), h) :=
  ko_callP hq hf hi hy hz hM hd (fun rv h2 ⟨v, e1, e2, hQ⟩ => by subst e1; subst e2; exact k v hQ)
theorem ko_callPL (hq : q ∈ mi_prog) {pc : Nat} {ls : mi_L} {st : List Value} {h : mi_H} {i : mi_I} (hf : mi_find q.2 pc = some i) {y : Nat} {r : mi_M} {as rest : List Value} (hi : mi_inv mi_N0 i.1 i.2.2 st h = some (y, r, as, rest)) {cy : List (Nat × mi_I)} (hy : mi_prog[y]? = some (r, cy)) (hz : r.2.2.2.2.2.2.2 = (0, 0)) {Q : Int64 → Prop} (hM : km d1 y as h (kPL h Q)) (hd : d1 + 1 ≤ d)
    (k : ∀ v, Q v → ko d q P (pc + 3, ls, .long v :: rest, (0, 0), h)) : ko d q P (pc, ls, st, (0, 0), h) :=
  ko_callP hq hf hi hy hz hM hd (fun rv h2 ⟨v, e1, e2, hQ⟩ => by subst e1; subst e2; exact k v hQ)
theorem ko_callPR (hq : q ∈ mi_prog) {pc : Nat} {ls : mi_L} {st : List Value} {h : mi_H} {i : mi_I} (hf : mi_find q.2 pc = some i) {y : Nat} {r : mi_M} {as rest : List Value} (hi : mi_inv mi_N0 i.1 i.2.2 st h = some (y, r, as, rest)) {cy : List (Nat × mi_I)} (hy : mi_prog[y]? = some (r, cy)) (hz : r.2.2.2.2.2.2.2 = (0, 0)) {Q : Nat → Prop} (hM : km d1 y as h (kPR h Q)) (hd : d1 + 1 ≤ d)
    (k : ∀ v, Q v → ko d q P (pc + 3, ls, .ref v :: rest, (0, 0), h)) : ko d q P (pc, ls, st, (0, 0), h) :=
  ko_callP hq hf hi hy hz hM hd (fun rv h2 ⟨v, e1, e2, hQ⟩ => by subst e1; subst e2; exact k v hQ)
theorem ko_alen (hq : q ∈ mi_prog) {pc : Nat} {ls : mi_L} {r : List Value} {cn : Nat × Nat} {h : mi_H} {a : Nat} {l : List Int32} {ax : mi_X} (hf : mi_find q.2 pc = some (.arraylength, 1, ax)) (hlo : Nat.blt a mi_RO = true) (ha : h[a]? = some (.inr (.int, .inl l))) {x : Int32} (hx : Int32.ofNat l.length = x) (k : ko (d + 1) q P (pc + 1, ls, .int x :: r, cn, h)) : ko (d + 1) q P (pc, ls, .ref a :: r, cn, h) := by
  subst hx
  refine ko_heap hq hf rfl ?_ k
  show mi_hAlen mi_N0 pc (.ref a :: r) cn h = _
  unfold mi_hAlen
  dsimp only
  rw [hlo]
  dsimp only
  rw [ha]
  rfl
end KP
