/-! WHAT A METHOD LEAVES: the invariant, the three Laws' places, and all else as it was -/
def kM (l : List Nat) (k : Nat) : Bool := l.any (fun z => Nat.beq z k)
def kr (r : Nat → Nat) : Prop := ((r 0 = 10 ∧ r 2 = 100) ∨ (r 0 = 100 ∧ r 2 = 10)) ∧ (r 1 = 59 ∨ r 1 = 10 ∨ r 1 = 100)
/-- fields, int arrays, long arrays, Laws' places that may be written -/
abbrev kW : Type := List Nat × List Nat × List Nat × List Nat
def kW0 : kW := ([], [], [], [])
def kG (w : kW) (i0 : Nat → Int32) (a0 : Nat → List Int32) (q0 : Nat → List Int64) (r0 : Nat → Nat) (i : Nat → Int32) (a : Nat → List Int32) (q : Nat → List Int64) (r : Nat → Nat) : Prop :=
  (kI i a q ∧ kr r) ∧ (∀ k, kM w.1 k = false → i k = i0 k) ∧ (∀ p, kM w.2.1 p = false → a p = a0 p) ∧ (∀ p, kM w.2.2.1 p = false → q p = q0 p) ∧ (∀ p, kM w.2.2.2 p = false → r p = r0 p)
section KG
variable {w w1 : kW} {i0 i i1 : Nat → Int32} {a0 a a1 : Nat → List Int32} {q0 q q1 : Nat → List Int64} {r0 r r1 : Nat → Nat}
theorem kG_self (w : kW) (h : kI i a q) (hr : kr r) : kG w i a q r i a q r := ⟨⟨h, hr⟩, fun _ _ => rfl, fun _ _ => rfl, fun _ _ => rfl, fun _ _ => rfl⟩
theorem kG.I (h : kG w i0 a0 q0 r0 i a q r) : kI i a q := h.1.1
theorem kG.R (h : kG w i0 a0 q0 r0 i a q r) : kr r := h.1.2
theorem kG.fi (h : kG w i0 a0 q0 r0 i a q r) (k : Nat) (hk : kM w.1 k = false) : i k = i0 k := h.2.1 k hk
theorem kG.fa (h : kG w i0 a0 q0 r0 i a q r) (k : Nat) (hk : kM w.2.1 k = false) : a k = a0 k := h.2.2.1 k hk
theorem kG.fq (h : kG w i0 a0 q0 r0 i a q r) (k : Nat) (hk : kM w.2.2.1 k = false) : q k = q0 k := h.2.2.2.1 k hk
theorem kG.fr (h : kG w i0 a0 q0 r0 i a q r) (k : Nat) (hk : kM w.2.2.2 k = false) : r k = r0 k := h.2.2.2.2 k hk
theorem kG.ti (h : kG w i0 a0 q0 r0 i a q r) (k : Nat) (hk : kM w.1 k = false) : (i k).toInt = (i0 k).toInt := congrArg Int32.toInt (h.2.1 k hk)
theorem kG_i (h : kG w i0 a0 q0 r0 i a q r) (k : Nat) (hk : kM w.1 k = true) {v : Int32} (hv : (kR k).1 ≤ v.toInt ∧ v.toInt ≤ (kR k).2) : kG w i0 a0 q0 r0 (ku i k v) a q r := by
  refine ⟨⟨kI_i h.1.1 k hv, h.1.2⟩, fun n hn => ?_, h.2.2⟩
  rw [ku_other i v (fun e => by rw [e, hk] at hn; cases hn)]
  exact h.2.1 n hn
theorem kG_a (h : kG w i0 a0 q0 r0 i a q r) (p : Nat) (hk : kM w.2.1 p = true) (j : Nat) {v : Int32} (hv : (kE p j).1 ≤ v.toInt ∧ v.toInt ≤ (kE p j).2) : kG w i0 a0 q0 r0 i (ku a p ((a p).set j v)) q r := by
  refine ⟨⟨kI_a h.1.1 p j hv, h.1.2⟩, h.2.1, fun n hn => ?_, h.2.2.2⟩
  rw [ku_other a _ (fun e => by rw [e, hk] at hn; cases hn)]
  exact h.2.2.1 n hn
theorem kI_al (h : kI i a q) (p : Nat) {l : List Int32} (hl : l.length = kL p) (he : ∀ j : Nat, (kE p j).1 ≤ (l.getD j 0).toInt ∧ (l.getD j 0).toInt ≤ (kE p j).2) : kI i (ku a p l) q := by
  refine ⟨h.1, fun n => ?_, fun n m => ?_, h.2.2.2⟩
  · by_cases e : n = p
    · subst e; rw [ku_same]; exact hl
    · rw [ku_other a _ e]; exact h.2.1 n
  · by_cases e : n = p
    · subst e; rw [ku_same]; exact he m
    · rw [ku_other a _ e]; exact h.2.2.1 n m
theorem kG_al (h : kG w i0 a0 q0 r0 i a q r) (p : Nat) (hk : kM w.2.1 p = true) {l : List Int32} (hl : l.length = kL p) (he : ∀ j : Nat, (kE p j).1 ≤ (l.getD j 0).toInt ∧ (l.getD j 0).toInt ≤ (kE p j).2) : kG w i0 a0 q0 r0 i (ku a p l) q r := by
  refine ⟨⟨kI_al h.1.1 p hl he, h.1.2⟩, h.2.1, fun n hn => ?_, h.2.2.2⟩
  rw [ku_other a _ (fun e => by rw [e, hk] at hn; cases hn)]
  exact h.2.2.1 n hn
theorem kG_q (h : kG w i0 a0 q0 r0 i a q r) (p : Nat) (hk : kM w.2.2.1 p = true) {z : List Int64} (hz : z.length = kLq p) : kG w i0 a0 q0 r0 i a (ku q p z) r := by
  refine ⟨⟨kI_q h.1.1 p hz, h.1.2⟩, h.2.1, h.2.2.1, fun n hn => ?_, h.2.2.2.2⟩
  rw [ku_other q _ (fun e => by rw [e, hk] at hn; cases hn)]
  exact h.2.2.2.1 n hn
theorem kG_r (h : kG w i0 a0 q0 r0 i a q r) (p : Nat) (hk : kM w.2.2.2 p = true) {v : Nat} (hv : kr (ku r p v)) : kG w i0 a0 q0 r0 i a q (ku r p v) := by
  refine ⟨⟨h.1.1, hv⟩, h.2.1, h.2.2.1, h.2.2.2.1, fun n hn => ?_⟩
  rw [ku_other r _ (fun e => by rw [e, hk] at hn; cases hn)]
  exact h.2.2.2.2 n hn
theorem kM_sub {l l1 : List Nat} (hs : l1.all (kM l) = true) {k : Nat} (h : kM l k = false) : kM l1 k = false := by
  cases e : kM l1 k with
  | false => rfl
  | true =>
    obtain ⟨z, hz, hb⟩ := List.any_eq_true.mp e
    have := List.all_eq_true.mp hs z hz
    rw [Nat.eq_of_beq_eq_true hb, h] at this
    cases this
def kWs (w1 w : kW) : Bool := w1.1.all (kM w.1) && (w1.2.1.all (kM w.2.1) && (w1.2.2.1.all (kM w.2.2.1) && w1.2.2.2.all (kM w.2.2.2)))
/-- behind a call, or a loop, that writes less -/
theorem kG_call (h : kG w i0 a0 q0 r0 i a q r) (h1 : kG w1 i a q r i1 a1 q1 r1) (s : kWs w1 w = true) : kG w i0 a0 q0 r0 i1 a1 q1 r1 := by
  obtain ⟨s1, s⟩ := Bool.and_eq_true_iff.mp s
  obtain ⟨s2, s⟩ := Bool.and_eq_true_iff.mp s
  obtain ⟨s3, s4⟩ := Bool.and_eq_true_iff.mp s
  exact ⟨h1.1, fun k hk => (h1.2.1 k (kM_sub s1 hk)).trans (h.2.1 k hk), fun p hp => (h1.2.2.1 p (kM_sub s2 hp)).trans (h.2.2.1 p hp), fun p hp => (h1.2.2.2.1 p (kM_sub s3 hp)).trans (h.2.2.2.1 p hp), fun p hp => (h1.2.2.2.2 p (kM_sub s4 hp)).trans (h.2.2.2.2 p hp)⟩
end KG
/-! what methods of each kind of answer leave -/
def kVN (w : kW) (i : Nat → Int32) (a : Nat → List Int32) (q : Nat → List Int64) (r : Nat → Nat) (Q : (Nat → Int32) → (Nat → List Int32) → (Nat → List Int64) → (Nat → Nat) → Prop) (rv : Option Value) (h1 : mi_H) : Prop := ∃ i1 a1 q1 r1, rv = none ∧ h1 = ks i1 a1 q1 r1 ∧ kG w i a q r i1 a1 q1 r1 ∧ Q i1 a1 q1 r1
def kVI (w : kW) (i : Nat → Int32) (a : Nat → List Int32) (q : Nat → List Int64) (r : Nat → Nat) (Q : Int32 → (Nat → Int32) → (Nat → List Int32) → (Nat → List Int64) → (Nat → Nat) → Prop) (rv : Option Value) (h1 : mi_H) : Prop := ∃ v i1 a1 q1 r1, rv = some (.int v) ∧ h1 = ks i1 a1 q1 r1 ∧ kG w i a q r i1 a1 q1 r1 ∧ Q v i1 a1 q1 r1
section KV
variable {d d1 : Nat} {q : mi_M × List (Nat × mi_I)} {P : Option Value → mi_H → Prop} {w : kW} {i0 i1 : Nat → Int32} {a0 a1 : Nat → List Int32} {q0 q1 : Nat → List Int64} {r0 r1 : Nat → Nat}
theorem km_ofN {y : Nat} (hq : mi_prog[y]? = some q) (hk3 : q.1.2.2.2.2.2.2.1 ≠ 3) {as : List Value} (hn : (lg_sl as).length ≤ q.1.2.2.1) {h : mi_H} {Q : (Nat → Int32) → (Nat → List Int32) → (Nat → List Int64) → (Nat → Nat) → Prop} (k : ∀ P : Option Value → mi_H → Prop, (∀ i1 a1 q1 r1, kG w i0 a0 q0 r0 i1 a1 q1 r1 → Q i1 a1 q1 r1 → P none (ks i1 a1 q1 r1)) → ko d q P (0, lv_args 0 as, [], (0, 0), h)) : km d y as h (kVN w i0 a0 q0 r0 Q) :=
  km_of hq hk3 hn (k _ (fun i1 a1 q1 r1 hG hQ => ⟨i1, a1, q1, r1, rfl, rfl, hG, hQ⟩))
theorem km_ofI {y : Nat} (hq : mi_prog[y]? = some q) (hk3 : q.1.2.2.2.2.2.2.1 ≠ 3) {as : List Value} (hn : (lg_sl as).length ≤ q.1.2.2.1) {h : mi_H} {Q : Int32 → (Nat → Int32) → (Nat → List Int32) → (Nat → List Int64) → (Nat → Nat) → Prop} (k : ∀ P : Option Value → mi_H → Prop, (∀ v i1 a1 q1 r1, kG w i0 a0 q0 r0 i1 a1 q1 r1 → Q v i1 a1 q1 r1 → P (some (.int v)) (ks i1 a1 q1 r1)) → ko d q P (0, lv_args 0 as, [], (0, 0), h)) : km d y as h (kVI w i0 a0 q0 r0 Q) :=
  km_of hq hk3 hn (k _ (fun v i1 a1 q1 r1 hG hQ => ⟨v, i1, a1, q1, r1, rfl, rfl, hG, hQ⟩))
theorem ko_callP (hq : q ∈ mi_prog) {pc : Nat} {ls : mi_L} {st : List Value} {h : mi_H} {i : mi_I} (hf : mi_find q.2 pc = some i) {y : Nat} {r : mi_M} {as rest : List Value} (hi : mi_inv mi_N0 i.1 i.2.2 st h = some (y, r, as, rest)) {cy : List (Nat × mi_I)} (hy : mi_prog[y]? = some (r, cy)) (hz : r.2.2.2.2.2.2.2 = (0, 0)) {P1 : Option Value → mi_H → Prop} (hM : km d1 y as h P1) (hd : d1 + 1 ≤ d)
    (k : ∀ rv h2, P1 rv h2 → ko d q P (pc + 3, ls, rv.toList ++ rest, (0, 0), h2)) : ko d q P (pc, ls, st, (0, 0), h) := by
  refine ko_call hq (x := (pc, ls, st, (0, 0), h)) hf hi hy hM hd ?_ ?_
  · rw [hz]; exact ⟨Nat.zero_le _, Nat.zero_le _⟩
  · rw [hz]; exact k
theorem ko_callN (hq : q ∈ mi_prog) {pc : Nat} {ls : mi_L} {st : List Value} {h : mi_H} {i : mi_I} (hf : mi_find q.2 pc = some i) {y : Nat} {r : mi_M} {as rest : List Value} (hi : mi_inv mi_N0 i.1 i.2.2 st h = some (y, r, as, rest)) {cy : List (Nat × mi_I)} (hy : mi_prog[y]? = some (r, cy)) (hz : r.2.2.2.2.2.2.2 = (0, 0)) {Q : (Nat → Int32) → (Nat → List Int32) → (Nat → List Int64) → (Nat → Nat) → Prop} (hM : km d1 y as h (kVN w i0 a0 q0 r0 Q)) (hd : d1 + 1 ≤ d)
    (k : ∀ i1 a1 q1 r1, kG w i0 a0 q0 r0 i1 a1 q1 r1 → Q i1 a1 q1 r1 → ko d q P (pc + 3, ls, rest, (0, 0), ks i1 a1 q1 r1)) : ko d q P (pc, ls, st, (0, 0), h) :=
  ko_callP hq hf hi hy hz hM hd (fun rv h2 ⟨i1, a1, q1, r1, e1, e2, hG, hQ⟩ => by subst e1; subst e2; exact k i1 a1 q1 r1 hG hQ)
theorem ko_callI (hq : q ∈ mi_prog) {pc : Nat} {ls : mi_L} {st : List Value} {h : mi_H} {i : mi_I} (hf : mi_find q.2 pc = some i) {y : Nat} {r : mi_M} {as rest : List Value} (hi : mi_inv mi_N0 i.1 i.2.2 st h = some (y, r, as, rest)) {cy : List (Nat × mi_I)} (hy : mi_prog[y]? = some (r, cy)) (hz : r.2.2.2.2.2.2.2 = (0, 0)) {Q : Int32 → (Nat → Int32) → (Nat → List Int32) → (Nat → List Int64) → (Nat → Nat) → Prop} (hM : km d1 y as h (kVI w i0 a0 q0 r0 Q)) (hd : d1 + 1 ≤ d)
    (k : ∀ v i1 a1 q1 r1, kG w i0 a0 q0 r0 i1 a1 q1 r1 → Q v i1 a1 q1 r1 → ko d q P (pc + 3, ls, .int v :: rest, (0, 0), ks i1 a1 q1 r1)) : ko d q P (pc, ls, st, (0, 0), h) :=
  ko_callP hq hf hi hy hz hM hd (fun rv h2 ⟨v, i1, a1, q1, r1, e1, e2, hG, hQ⟩ => by subst e1; subst e2; exact k v i1 a1 q1 r1 hG hQ)
theorem ko_sw (hq : q ∈ mi_prog) {pc : Nat} {ls : mi_L} {r : List Value} {cn : Nat × Nat} {h : mi_H} {v : Int32} {i : mi_I} {dd lo hi : Int} {offs : Array Int} (hf : mi_find q.2 pc = some i) (hi0 : i.1 = .tableswitch dd lo hi offs) (hv : v.toInt < lo ∨ hi < v.toInt) (t : Nat) (ht : mi_to pc dd = some t) (k : ko (d + 1) q P (t, ls, r, cn, h)) : ko (d + 1) q P (pc, ls, .int v :: r, cn, h) := by
  obtain ⟨rv, h1, a, b⟩ := k
  exact ⟨rv, h1, mi_sem_sw hq hf hi0 hv t ht a, b⟩
theorem ko_lsw (hq : q ∈ mi_prog) {pc : Nat} {ls : mi_L} {r : List Value} {cn : Nat × Nat} {h : mi_H} {v : Int32} {i : mi_I} {dd : Int} {ps : Array (Int × Int)} (hf : mi_find q.2 pc = some i) (hi0 : i.1 = .lookupswitch dd ps) (ho : Op.lookupswitch.offset ps.toList dd v.toInt = dd) (t : Nat) (ht : mi_to pc dd = some t) (k : ko (d + 1) q P (t, ls, r, cn, h)) : ko (d + 1) q P (pc, ls, .int v :: r, cn, h) := by
  refine ko_steps hq 1 _ (t, ls, r, cn, h) ?_ k
  show (match mi_step mi_N0 (fun _ _ _ => none) q (pc, ls, .int v :: r, cn, h) with
    | some (.inl x1) => some x1
    | _ => none) = some (t, ls, r, cn, h)
  unfold mi_step
  dsimp only
  rw [hf]
  dsimp only
  rw [hi0]
  have e : mi_pure (.lookupswitch dd ps) pc q.1.2.2.1 ls (.int v :: r) = some (t, ls, r) := by
    simp only [mi_pure]
    rw [ho, ht]
  rw [e]
theorem ko_copyI (hq : q ∈ mi_prog) {pc : Nat} {ls : mi_L} {rest : List Value} {cn : Nat × Nat} {h : mi_H} {n dp sp : Int32} {x y : Nat} {l g : List Int32} {idx : Nat} {b : Nat} {v : Int} {z : Nat} (hf : mi_find q.2 pc = some (.invokestatic idx, 3, 0, b, 11, v, z)) (hx : Nat.blt x mi_RO = true) (hy : Nat.blt y mi_RO = true) (hs : Nat.ble (mi_sum rest) 8 = true) (hl : h[x]? = some (.inr (.int, .inl l))) (hg : h[y]? = some (.inr (.int, .inl g))) (h0 : 0 ≤ n.toInt) (h1 : 0 ≤ sp.toInt) (h2 : 0 ≤ dp.toInt) (h3 : sp.toInt + n.toInt ≤ l.length) (h4 : dp.toInt + n.toInt ≤ g.length)
    (k : ko (d + 1) q P (pc + 3, ls, rest, cn, h.set y (.inr (.int, .inl (mi_cpy l g sp.toNatClampNeg dp.toNatClampNeg n.toNatClampNeg))))) : ko (d + 1) q P (pc, ls, .int n :: .int dp :: .ref y :: .int sp :: .ref x :: rest, cn, h) := by
  refine ko_heap hq hf rfl ?_ k
  show mi_hCopy pc (.int n :: .int dp :: .ref y :: .int sp :: .ref x :: rest) cn h = _
  have c1 : (!(decide (sp < 0) || decide (dp < 0) || decide (n < 0))) = true := by
    have z : (0 : Int32).toInt = 0 := by decide
    rw [decide_eq_false (fun e => by have := Int32.lt_iff_toInt_lt.mp e; omega), decide_eq_false (fun e => by have := Int32.lt_iff_toInt_lt.mp e; omega), decide_eq_false (fun e => by have := Int32.lt_iff_toInt_lt.mp e; omega)]
    rfl
  unfold mi_hCopy
  dsimp only
  rw [hx, hy, hs, c1, hl, hg]
  dsimp only [Bool.and_self]
  have m1 : Nat.ble (sp.toNatClampNeg + n.toNatClampNeg) l.length = true := Nat.ble_eq_true_of_le (by
    have := Int32.toNat_toInt sp; have := Int32.toNat_toInt n; omega)
  have m2 : Nat.ble (dp.toNatClampNeg + n.toNatClampNeg) g.length = true := Nat.ble_eq_true_of_le (by
    have := Int32.toNat_toInt dp; have := Int32.toNat_toInt n; omega)
  rw [m1, m2]
  rfl
theorem ko_copyL (hq : q ∈ mi_prog) {pc : Nat} {ls : mi_L} {rest : List Value} {cn : Nat × Nat} {h : mi_H} {n dp sp : Int32} {x y : Nat} {l g : List Int64} {idx : Nat} {b : Nat} {v : Int} {z : Nat} (hf : mi_find q.2 pc = some (.invokestatic idx, 3, 0, b, 11, v, z)) (hx : Nat.blt x mi_RO = true) (hy : Nat.blt y mi_RO = true) (hs : Nat.ble (mi_sum rest) 8 = true) (hl : h[x]? = some (.inr (.long, .inr (.inl l)))) (hg : h[y]? = some (.inr (.long, .inr (.inl g)))) (h0 : 0 ≤ n.toInt) (h1 : 0 ≤ sp.toInt) (h2 : 0 ≤ dp.toInt) (h3 : sp.toInt + n.toInt ≤ l.length) (h4 : dp.toInt + n.toInt ≤ g.length)
    (k : ko (d + 1) q P (pc + 3, ls, rest, cn, h.set y (.inr (.long, .inr (.inl (mi_cpy l g sp.toNatClampNeg dp.toNatClampNeg n.toNatClampNeg)))))) : ko (d + 1) q P (pc, ls, .int n :: .int dp :: .ref y :: .int sp :: .ref x :: rest, cn, h) := by
  refine ko_heap hq hf rfl ?_ k
  show mi_hCopy pc (.int n :: .int dp :: .ref y :: .int sp :: .ref x :: rest) cn h = _
  have c1 : (!(decide (sp < 0) || decide (dp < 0) || decide (n < 0))) = true := by
    have z : (0 : Int32).toInt = 0 := by decide
    rw [decide_eq_false (fun e => by have := Int32.lt_iff_toInt_lt.mp e; omega), decide_eq_false (fun e => by have := Int32.lt_iff_toInt_lt.mp e; omega), decide_eq_false (fun e => by have := Int32.lt_iff_toInt_lt.mp e; omega)]
    rfl
  unfold mi_hCopy
  dsimp only
  rw [hx, hy, hs, c1, hl, hg]
  dsimp only [Bool.and_self]
  have m1 : Nat.ble (sp.toNatClampNeg + n.toNatClampNeg) l.length = true := Nat.ble_eq_true_of_le (by
    have := Int32.toNat_toInt sp; have := Int32.toNat_toInt n; omega)
  have m2 : Nat.ble (dp.toNatClampNeg + n.toNatClampNeg) g.length = true := Nat.ble_eq_true_of_le (by
    have := Int32.toNat_toInt dp; have := Int32.toNat_toInt n; omega)
  rw [m1, m2]
  rfl
end KV
