/-! WHAT COMES OUT, WITHOUT ITS NAME: from a state the run of a method comes to a result with P -/
def ko (d : Nat) (q : mi_M × List (Nat × mi_I)) (P : Option Value → mi_H → Prop) (x : mi_S) : Prop := ∃ (rv : Option Value) (h1 : mi_H), mi_Sem mi_N0 d q rv h1 x ∧ P rv h1
/-- a call of method y does so -/
def km (d y : Nat) (as : List Value) (h : mi_H) (P : Option Value → mi_H → Prop) : Prop := ∃ (rv : Option Value) (h1 : mi_H) (q : mi_M × List (Nat × mi_I)), mi_prog[y]? = some q ∧ mi_Met mi_N0 d q.1 as h rv h1 ∧ P rv h1
theorem mi_iaro {N : mi_N} {pc : Nat} {r : List Value} {cn : Nat × Nat} {h : mi_H} {j : Int32} {a : Nat} {l : List Int32} (hlo : Nat.blt a mi_RO = false) (ha : N.2.1 (a - mi_RO) = some (.int, l)) (h0 : mi_off j l.length = false) : mi_hIald N pc (.int j :: .ref a :: r) cn h = some (pc + 1, .int (l.getD j.toNatClampNeg 0) :: r, cn, h) := by
  unfold mi_hIald
  dsimp only
  rw [hlo]
  dsimp only
  rw [ha]
  dsimp only
  rw [h0]
section KO
variable {d : Nat} {q : mi_M × List (Nat × mi_I)} {P : Option Value → mi_H → Prop}
theorem km_imp {y : Nat} {as : List Value} {h : mi_H} {P1 : Option Value → mi_H → Prop} (k : km d y as h P) (i : ∀ rv h1, P rv h1 → P1 rv h1) : km d y as h P1 := by
  obtain ⟨rv, h1, q, a, b, c⟩ := k
  exact ⟨rv, h1, q, a, b, i _ _ c⟩
theorem km_of {y : Nat} (hq : mi_prog[y]? = some q) (hk3 : q.1.2.2.2.2.2.2.1 ≠ 3) {as : List Value} (hn : (lg_sl as).length ≤ q.1.2.2.1) {h : mi_H} (k : ko d q P (0, lv_args 0 as, [], (0, 0), h)) : km d y as h P := by
  obtain ⟨rv, h1, a, b⟩ := k
  exact ⟨rv, h1, q, hq, mi_met_of hq hk3 hn a, b⟩
theorem ko_ret {x : mi_S} (hq : q ∈ mi_prog) {rv : Option Value} {h1 : mi_H} (hx : mi_step mi_N0 (fun _ _ _ => none) q x = some (.inr (rv, h1))) (hp : P rv h1) : ko d q P x := ⟨rv, h1, mi_sem_ret hq hx, hp⟩
theorem ko_steps (hq : q ∈ mi_prog) (n : Nat) (x x1 : mi_S) (h : mi_steps mi_N0 (fun _ _ _ => none) q n x = some x1) (k : ko (d + 1) q P x1) : ko (d + 1) q P x := by
  obtain ⟨rv, h1, a, b⟩ := k
  exact ⟨rv, h1, mi_sem_steps hq (mi_calok_none _ _) n x x1 h a, b⟩
theorem ko_eq {x x1 : mi_S} (e : x = x1) (k : ko d q P x1) : ko d q P x := e ▸ k
theorem ko_perm {pc : Nat} {ls : mi_L} {st : List Value} {cn : Nat × Nat} {h : mi_H} (ls1 : mi_L) (hs : ∀ z ∈ ls1, z ∈ ls) (k : ko d q P (pc, ls1, st, cn, h)) : ko d q P (pc, ls, st, cn, h) := by
  obtain ⟨rv, h1, a, b⟩ := k
  exact ⟨rv, h1, mi_sem_perm ls1 hs a, b⟩
theorem ko_if (hq : q ∈ mi_prog) {x : mi_S} (cb : Bool) (t u : Nat) (z : mi_L × List Value × (Nat × Nat) × mi_H) (hx : mi_step mi_N0 (fun _ _ _ => none) q x = some (.inl (bif cb then t else u, z))) (kt : cb = true → ko (d + 1) q P (t, z)) (kf : cb = false → ko (d + 1) q P (u, z)) : ko (d + 1) q P x := by
  cases cb with
  | true =>
    obtain ⟨rv, h1, a, b⟩ := kt rfl
    exact ⟨rv, h1, mi_sem_b hq true true rfl t u z hx a, b⟩
  | false =>
    obtain ⟨rv, h1, a, b⟩ := kf rfl
    exact ⟨rv, h1, mi_sem_b hq false false rfl t u z hx a, b⟩
theorem ko_call (hq : q ∈ mi_prog) {x : mi_S} {i : mi_I} (hf : mi_find q.2 x.1 = some i) {y : Nat} {r : mi_M} {as rest : List Value} (hi : mi_inv mi_N0 i.1 i.2.2 x.2.2.1 x.2.2.2.2 = some (y, r, as, rest)) {cy : List (Nat × mi_I)} (hy : mi_prog[y]? = some (r, cy)) {d1 : Nat} {P1 : Option Value → mi_H → Prop} (hM : km d1 y as x.2.2.2.2 P1) (hd : d1 + 1 ≤ d) (hc : x.2.2.2.1.1 + r.2.2.2.2.2.2.2.1 ≤ q.1.2.2.2.2.2.2.2.1 ∧ x.2.2.2.1.2 + r.2.2.2.2.2.2.2.2 ≤ q.1.2.2.2.2.2.2.2.2)
    (k : ∀ rv h2, P1 rv h2 → ko d q P (x.1 + 3, x.2.1, rv.toList ++ rest, (x.2.2.2.1.1 + r.2.2.2.2.2.2.2.1, x.2.2.2.1.2 + r.2.2.2.2.2.2.2.2), h2)) : ko d q P x := by
  obtain ⟨rv1, h2, qy, a, b, c⟩ := hM
  rw [hy] at a
  cases a
  obtain ⟨rv, h1, e, f⟩ := k rv1 h2 c
  exact ⟨rv, h1, mi_sem_call hq hf hi b hd hc e, f⟩
theorem ko_heap (hq : q ∈ mi_prog) {pc pc1 len : Nat} {ls : mi_L} {st st1 : List Value} {cn cn1 : Nat × Nat} {h h2 : mi_H} {ins : Instr} {ax : mi_X} (hf : mi_find q.2 pc = some (ins, len, ax)) (hp : mi_pure ins pc q.1.2.2.1 ls st = none) (hh : mi_hp mi_N0 (q.1.2.2.2.2.2.2.2.1, q.1.2.2.2.2.2.2.2.2) ins ax pc st cn h = some (pc1, st1, cn1, h2)) (k : ko (d + 1) q P (pc1, ls, st1, cn1, h2)) : ko (d + 1) q P (pc, ls, st, cn, h) := by
  refine ko_steps hq 1 _ _ ?_ k
  show (match mi_step mi_N0 (fun _ _ _ => none) q (pc, ls, st, cn, h) with
    | some (.inl x1) => some x1
    | _ => none) = some (pc1, ls, st1, cn1, h2)
  unfold mi_step
  dsimp only
  rw [hf]
  dsimp only
  rw [hp]
  dsimp only
  rw [hh]
theorem ko_iald (hq : q ∈ mi_prog) {pc : Nat} {ls : mi_L} {r : List Value} {cn : Nat × Nat} {h : mi_H} {j : Int32} {a : Nat} {l : List Int32} {ax : mi_X} (hf : mi_find q.2 pc = some (.iaload, 1, ax)) (hlo : Nat.blt a mi_RO = true) (ha : h[a]? = some (.inr (.int, .inl l))) (h0 : 0 ≤ j.toInt) (h1 : j.toInt < l.length) (k : ko (d + 1) q P (pc + 1, ls, .int (l.getD j.toNatClampNeg 0) :: r, cn, h)) : ko (d + 1) q P (pc, ls, .int j :: .ref a :: r, cn, h) := by
  refine ko_heap hq hf rfl ?_ k
  show mi_hIald mi_N0 pc (.int j :: .ref a :: r) cn h = _
  unfold mi_hIald
  dsimp only
  rw [hlo]
  dsimp only
  rw [ha]
  dsimp only
  rw [mi_offok h0 h1]
theorem ko_iaro (hq : q ∈ mi_prog) {pc : Nat} {ls : mi_L} {r : List Value} {cn : Nat × Nat} {h : mi_H} {j : Int32} {a : Nat} {l : List Int32} {ax : mi_X} (hf : mi_find q.2 pc = some (.iaload, 1, ax)) (hlo : Nat.blt a mi_RO = false) (ha : mi_N0.2.1 (a - mi_RO) = some (.int, l)) (h0 : 0 ≤ j.toInt) (h1 : j.toInt < l.length) (k : ko (d + 1) q P (pc + 1, ls, .int (l.getD j.toNatClampNeg 0) :: r, cn, h)) : ko (d + 1) q P (pc, ls, .int j :: .ref a :: r, cn, h) := by
  have e := mi_iaro (N := mi_N0) (pc := pc) (r := r) (cn := cn) (h := h) (j := j) (a := a) (l := l) hlo ha (mi_offok h0 h1)
  exact ko_heap hq hf rfl e k
theorem ko_lald (hq : q ∈ mi_prog) {pc : Nat} {ls : mi_L} {r : List Value} {cn : Nat × Nat} {h : mi_H} {j : Int32} {a : Nat} {l : List Int64} {ax : mi_X} (hf : mi_find q.2 pc = some (.laload, 1, ax)) (hlo : Nat.blt a mi_RO = true) (ha : h[a]? = some (.inr (.long, .inr (.inl l)))) (h0 : 0 ≤ j.toInt) (h1 : j.toInt < l.length) (k : ko (d + 1) q P (pc + 1, ls, .long (l.getD j.toNatClampNeg 0) :: r, cn, h)) : ko (d + 1) q P (pc, ls, .int j :: .ref a :: r, cn, h) := by
  refine ko_heap hq hf rfl ?_ k
  show mi_hLald pc (.int j :: .ref a :: r) cn h = _
  unfold mi_hLald
  dsimp only
  rw [hlo]
  dsimp only
  rw [ha]
  dsimp only
  rw [mi_offok h0 h1]
theorem ko_iast (hq : q ∈ mi_prog) {pc : Nat} {ls : mi_L} {r : List Value} {cn : Nat × Nat} {h : mi_H} {x j : Int32} {a : Nat} {l : List Int32} {ax : mi_X} (hf : mi_find q.2 pc = some (.iastore, 1, ax)) (hlo : Nat.blt a mi_RO = true) (ha : h[a]? = some (.inr (.int, .inl l))) (h0 : 0 ≤ j.toInt) (h1 : j.toInt < l.length) (k : ko (d + 1) q P (pc + 1, ls, r, cn, h.set a (.inr (.int, .inl (l.set j.toNatClampNeg x))))) : ko (d + 1) q P (pc, ls, .int x :: .int j :: .ref a :: r, cn, h) := by
  refine ko_heap hq hf rfl ?_ k
  show mi_hIast pc (.int x :: .int j :: .ref a :: r) cn h = _
  unfold mi_hIast
  dsimp only
  rw [hlo]
  dsimp only
  rw [ha]
  dsimp only
  rw [mi_offok h0 h1]
theorem ko_last (hq : q ∈ mi_prog) {pc : Nat} {ls : mi_L} {r : List Value} {cn : Nat × Nat} {h : mi_H} {x : Int64} {j : Int32} {a : Nat} {l : List Int64} {ax : mi_X} (hf : mi_find q.2 pc = some (.lastore, 1, ax)) (hlo : Nat.blt a mi_RO = true) (ha : h[a]? = some (.inr (.long, .inr (.inl l)))) (h0 : 0 ≤ j.toInt) (h1 : j.toInt < l.length) (k : ko (d + 1) q P (pc + 1, ls, r, cn, h.set a (.inr (.long, .inr (.inl (l.set j.toNatClampNeg x)))))) : ko (d + 1) q P (pc, ls, .long x :: .int j :: .ref a :: r, cn, h) := by
  refine ko_heap hq hf rfl ?_ k
  show mi_hLast pc (.long x :: .int j :: .ref a :: r) cn h = _
  unfold mi_hLast
  dsimp only
  rw [hlo]
  dsimp only
  rw [ha]
  dsimp only
  rw [mi_offok h0 h1]
end KO
/-! what a decided comparison says of the ints -/
theorem kd_lt {x y : Int32} (h : decide (x < y) = true) : x.toInt < y.toInt := Int32.lt_iff_toInt_lt.mp (of_decide_eq_true h)
theorem kd_ltF {x y : Int32} (h : decide (x < y) = false) : y.toInt ≤ x.toInt := by
  have := of_decide_eq_false h
  rw [Int32.lt_iff_toInt_lt] at this
  omega
theorem kd_le {x y : Int32} (h : decide (x ≤ y) = true) : x.toInt ≤ y.toInt := Int32.le_iff_toInt_le.mp (of_decide_eq_true h)
theorem kd_leF {x y : Int32} (h : decide (x ≤ y) = false) : y.toInt < x.toInt := by
  have := of_decide_eq_false h
  rw [Int32.le_iff_toInt_le] at this
  omega
theorem kd_eq {x y : Int32} (h : (x == y) = true) : x.toInt = y.toInt := congrArg Int32.toInt (beq_iff_eq.mp h)
theorem kd_eqF {x y : Int32} (h : (x == y) = false) : x.toInt ≠ y.toInt := fun e => by
  rw [Int32.toInt_inj.mp e, beq_self_eq_true] at h
  cases h
theorem kd_ne {x y : Int32} (h : (x != y) = true) : x.toInt ≠ y.toInt := fun e => by
  rw [Int32.toInt_inj.mp e, bne_self_eq_false] at h
  cases h
theorem kd_neF {x y : Int32} (h : (x != y) = false) : x.toInt = y.toInt := by
  cases e : (x == y) with
  | true => exact kd_eq e
  | false =>
    have : (x != y) = true := by rw [bne, e]; rfl
    rw [this] at h
    cases h
/-! arithmetic that doesn't wrap -/
theorem kd_add {x y : Int32} (h0 : -2147483648 ≤ x.toInt + y.toInt) (h1 : x.toInt + y.toInt ≤ 2147483647) : (x + y).toInt = x.toInt + y.toInt := by
  rw [Int32.toInt_add]
  apply Int.bmod_eq_of_le <;> omega
theorem kd_sub {x y : Int32} (h0 : -2147483648 ≤ x.toInt - y.toInt) (h1 : x.toInt - y.toInt ≤ 2147483647) : (x - y).toInt = x.toInt - y.toInt := by
  rw [Int32.toInt_sub]
  apply Int.bmod_eq_of_le <;> omega
theorem kd_bd (x : Int32) : -2147483648 ≤ x.toInt ∧ x.toInt ≤ 2147483647 := ⟨Int32.le_toInt x, by have := Int32.toInt_lt x; omega⟩

