/-! methods that write nothing: the heap stays the same -/
def kPI (h : mi_H) (Q : Int32 → Prop) (rv : Option Value) (h1 : mi_H) : Prop := ∃ v, rv = some (.int v) ∧ h1 = h ∧ Q v
def kPL (h : mi_H) (Q : Int64 → Prop) (rv : Option Value) (h1 : mi_H) : Prop := ∃ v, rv = some (.long v) ∧ h1 = h ∧ Q v
def kPR (h : mi_H) (Q : Nat → Prop) (rv : Option Value) (h1 : mi_H) : Prop := ∃ v, rv = some (.ref v) ∧ h1 = h ∧ Q v
section KP
variable {d d1 : Nat} {q : mi_M × List (Nat × mi_I)} {P : Option Value → mi_H → Prop}
theorem km_ofPI {y : Nat} (hq : mi_prog[y]? = some q) (hk3 : q.1.2.2.2.2.2.2.1 ≠ 3) {as : List Value} (hn : (lg_sl as).length ≤ q.1.2.2.1) {h : mi_H} {Q : Int32 → Prop} (k : ∀ P : Option Value → mi_H → Prop, (∀ v, Q v → P (some (.int v)) h) → ko d q P (0, lv_args 0 as, [], (0, 0), h)) : km d y as h (kPI h Q) :=
  km_of hq hk3 hn (k _ (fun v hQ => ⟨v, rfl, rfl, hQ⟩))
theorem km_ofPL {y : Nat} (hq : mi_prog[y]? = some q) (hk3 : q.1.2.2.2.2.2.2.1 ≠ 3) {as : List Value} (hn : (lg_sl as).length ≤ q.1.2.2.1) {h : mi_H} {Q : Int64 → Prop} (k : ∀ P : Option Value → mi_H → Prop, (∀ v, Q v → P (some (.long v)) h) → ko d q P (0, lv_args 0 as, [], (0, 0), h)) : km d y as h (kPL h Q) :=
  km_of hq hk3 hn (k _ (fun v hQ => ⟨v, rfl, rfl, hQ⟩))
theorem km_ofPR {y : Nat} (hq : mi_prog[y]? = some q) (hk3 : q.1.2.2.2.2.2.2.1 ≠ 3) {as : List Value} (hn : (lg_sl as).length ≤ q.1.2.2.1) {h : mi_H} {Q : Nat → Prop} (k : ∀ P : Option Value → mi_H → Prop, (∀ v, Q v → P (some (.ref v)) h) → ko d q P (0, lv_args 0 as, [], (0, 0), h)) : km d y as h (kPR h Q) :=
  km_of hq hk3 hn (k _ (fun v hQ => ⟨v, rfl, rfl, hQ⟩))
theorem ko_callPI (hq : q ∈ mi_prog) {pc : Nat} {ls : mi_L} {st : List Value} {h : mi_H} {i : mi_I} (hf : mi_find q.2 pc = some i) {y : Nat} {r : mi_M} {as rest : List Value} (hi : mi_inv mi_N0 i.1 i.2.2 st h = some (y, r, as, rest)) {cy : List (Nat × mi_I)} (hy : mi_prog[y]? = some (r, cy)) (hz : r.2.2.2.2.2.2.2 = (0, 0)) {Q : Int32 → Prop} (hM : km d1 y as h (kPI h Q)) (hd : d1 + 1 ≤ d)
    (k : ∀ v, Q v → ko d q P (pc + 3, ls, .int v :: rest, (0, 0), h)) : ko d q P (pc, ls, st, (0, 0), h) :=
  ko_callP hq hf hi hy hz hM hd (fun rv h2 ⟨v, e1, e2, hQ⟩ => by subst e1; subst e2; exact k v hQ)
theorem ko_callPL (hq : q ∈ mi_prog) {pc : Nat} {ls : mi_L} {st : List Value} {h : mi_H} {i : mi_I} (hf : mi_find q.2 pc = some i) {y : Nat} {r : mi_M} {as rest : List Value} (hi : mi_inv mi_N0 i.1 i.2.2 st h = some (y, r, as, rest)) {cy : List (Nat × mi_I)} (hy : mi_prog[y]? = some (r, cy)) (hz : r.2.2.2.2.2.2.2 = (0, 0)) {Q : Int64 → Prop} (hM : km d1 y as h (kPL h Q)) (hd : d1 + 1 ≤ d)
    (k : ∀ v, Q v → ko d q P (pc + 3, ls, .long v :: rest, (0, 0), h)) : ko d q P (pc, ls, st, (0, 0), h) :=
  ko_callP hq hf hi hy hz hM hd (fun rv h2 ⟨v, e1, e2, hQ⟩ => by subst e1; subst e2; exact k v hQ)
theorem ko_callPR (hq : q ∈ mi_prog) {pc : Nat} {ls : mi_L} {st : List Value} {h : mi_H} {i : mi_I} (hf : mi_find q.2 pc = some i) {y : Nat} {r : mi_M} {as rest : List Value} (hi : mi_inv mi_N0 i.1 i.2.2 st h = some (y, r, as, rest)) {cy : List (Nat × mi_I)} (hy : mi_prog[y]? = some (r, cy)) (hz : r.2.2.2.2.2.2.2 = (0, 0)) {Q : Nat → Prop} (hM : km d1 y as h (kPR h Q)) (hd : d1 + 1 ≤ d)
    (k : ∀ v, Q v → ko d q P (pc + 3, ls, .ref v :: rest, (0, 0), h)) : ko d q P (pc, ls, st, (0, 0), h) :=
  ko_callP hq hf hi hy hz hM hd (fun rv h2 ⟨v, e1, e2, hQ⟩ => by subst e1; subst e2; exact k v hQ)
theorem ko_alen (hq : q ∈ mi_prog) {pc : Nat} {ls : mi_L} {r : List Value} {cn : Nat × Nat} {h : mi_H} {a : Nat} {l : List Int32} {ax : mi_X} (hf : mi_find q.2 pc = some (.arraylength, 1, ax)) (hlo : Nat.blt a mi_RO = true) (ha : h[a]? = some (.inr (.int, .inl l))) {x : Int32} (hx : Int32.ofNat l.length = x) (k : ko (d + 1) q P (pc + 1, ls, .int x :: r, cn, h)) : ko (d + 1) q P (pc, ls, .ref a :: r, cn, h) := by
  subst hx
  refine ko_heap hq hf rfl ?_ k
  show mi_hAlen mi_N0 pc (.ref a :: r) cn h = _
  unfold mi_hAlen
  dsimp only
  rw [hlo]
  dsimp only
  rw [ha]
  rfl
end KP
section KQ
variable {d d1 : Nat} {q : mi_M × List (Nat × mi_I)} {P : Option Value → mi_H → Prop}
theorem ko_idiv (hq : q ∈ mi_prog) {pc : Nat} {ls : mi_L} {r : List Value} {cn : Nat × Nat} {h : mi_H} {x y : Int32} {ax : mi_X} (hf : mi_find q.2 pc = some (.idiv, 1, ax)) (hy : y.toInt ≠ 0) (k : ko (d + 1) q P (pc + 1, ls, .int (x / y) :: r, cn, h)) : ko (d + 1) q P (pc, ls, .int y :: .int x :: r, cn, h) := by
  refine ko_steps hq 1 _ (pc + 1, ls, .int (x / y) :: r, cn, h) ?_ k
  show (match mi_step mi_N0 (fun _ _ _ => none) q (pc, ls, .int y :: .int x :: r, cn, h) with
    | some (.inl x1) => some x1
    | _ => none) = some (pc + 1, ls, .int (x / y) :: r, cn, h)
  have e : (y == 0) = false := beq_eq_false_iff_ne.mpr (fun z => hy (by rw [z]; decide))
  unfold mi_step
  dsimp only
  rw [hf]
  have e2 : mi_pure .idiv pc q.1.2.2.1 ls (.int y :: .int x :: r) = some (pc + 1, ls, .int (x / y) :: r) := by
    simp only [mi_pure]
    rw [e]
  dsimp only
  rw [e2]
theorem ko_irem (hq : q ∈ mi_prog) {pc : Nat} {ls : mi_L} {r : List Value} {cn : Nat × Nat} {h : mi_H} {x y : Int32} {ax : mi_X} (hf : mi_find q.2 pc = some (.irem, 1, ax)) (hy : y.toInt ≠ 0) (k : ko (d + 1) q P (pc + 1, ls, .int (x - x / y * y) :: r, cn, h)) : ko (d + 1) q P (pc, ls, .int y :: .int x :: r, cn, h) := by
  refine ko_steps hq 1 _ (pc + 1, ls, .int (x - x / y * y) :: r, cn, h) ?_ k
  show (match mi_step mi_N0 (fun _ _ _ => none) q (pc, ls, .int y :: .int x :: r, cn, h) with
    | some (.inl x1) => some x1
    | _ => none) = some (pc + 1, ls, .int (x - x / y * y) :: r, cn, h)
  have e : (y == 0) = false := beq_eq_false_iff_ne.mpr (fun z => hy (by rw [z]; decide))
  unfold mi_step
  dsimp only
  rw [hf]
  have e2 : mi_pure .irem pc q.1.2.2.1 ls (.int y :: .int x :: r) = some (pc + 1, ls, .int (x - x / y * y) :: r) := by
    simp only [mi_pure]
    rw [e]
  dsimp only
  rw [e2]
end KQ
def kro (l : List Int32) (lo hi : Int) : Bool := (l.all (fun x => decide (lo ≤ x.toInt) && decide (x.toInt ≤ hi))) && (decide (lo ≤ 0) && decide (0 ≤ hi))
theorem kro_rng {l : List Int32} {lo hi : Int} (h : kro l lo hi = true) (j : Nat) : lo ≤ (l.getD j 0).toInt ∧ (l.getD j 0).toInt ≤ hi := by
  obtain ⟨h1, h2⟩ := Bool.and_eq_true_iff.mp h
  obtain ⟨h2, h3⟩ := Bool.and_eq_true_iff.mp h2
  rw [List.getD_eq_getElem?_getD]
  cases e : l[j]? with
  | none => exact ⟨of_decide_eq_true h2, of_decide_eq_true h3⟩
  | some x =>
    obtain ⟨a, b⟩ := Bool.and_eq_true_iff.mp (List.all_eq_true.mp h1 x (List.mem_of_getElem? e))
    exact ⟨of_decide_eq_true a, of_decide_eq_true b⟩
theorem kG_r2 {w : kW} {i0 i : Nat → Int32} {a0 a : Nat → List Int32} {q0 q : Nat → List Int64} {r0 r : Nat → Nat} (h : kG w i0 a0 q0 r0 i a q r) (p : Nat) (hk : kM w.2.2.2 p = true) (p2 : Nat) (hk2 : kM w.2.2.2 p2 = true) {v v2 : Nat} (hv : kr (ku (ku r p v) p2 v2)) : kG w i0 a0 q0 r0 i a q (ku (ku r p v) p2 v2) := by
  refine ⟨⟨h.1.1, hv⟩, h.2.1, h.2.2.1, h.2.2.2.1, fun n hn => ?_⟩
  rw [ku_other _ _ (fun e => by rw [e, hk2] at hn; cases hn), ku_other r _ (fun e => by rw [e, hk] at hn; cases hn)]
  exact h.2.2.2.2 n hn
theorem kd_shlN (k : Nat) (b : Int) (hk : ∀ m : Nat, m < k + 1 → ((1 : Int32) <<< (Int32.ofNat m &&& 31)).toInt ≤ b) {n : Int32} (h0 : 0 ≤ n.toInt) (h1 : n.toInt ≤ k) : ((1 : Int32) <<< (n &&& 31)).toInt ≤ b := by
  have e : n = Int32.ofNat n.toInt.toNat := by
    apply Int32.toInt_inj.mp
    have := Int32.toInt_lt n
    rw [Int32.toInt_ofNat_of_lt (by omega)]
    omega
  rw [e]
  exact hk _ (by omega)
theorem kd_shl16 {n : Int32} (h0 : 0 ≤ n.toInt) (h1 : n.toInt ≤ 4) : ((1 : Int32) <<< (n &&& 31)).toInt ≤ 16 := kd_shlN 4 16 (by decide) h0 h1
theorem kd_shl32 {n : Int32} (h0 : 0 ≤ n.toInt) (h1 : n.toInt ≤ 5) : ((1 : Int32) <<< (n &&& 31)).toInt ≤ 32 := kd_shlN 5 32 (by decide) h0 h1
section KA
variable {d : Nat} {q : mi_M × List (Nat × mi_I)} {P : Option Value → mi_H → Prop} {n : Nat} {c : Int}
theorem ko_iaro2 (hq : q ∈ mi_prog) {pc : Nat} {ls : mi_L} {r : List Value} {cn : Nat × Nat} {h : mi_H} {j : Int32} {a : Nat} {l : List Int32} {ax : mi_X} (hf : mi_find q.2 pc = some (.iaload, 1, ax)) (hlo : Nat.blt a mi_RO = false) (ha : mi_N0.2.1 (a - mi_RO) = some (.int, l)) (hl : l.length = n) (hc : (n : Int) = c) (h0 : 0 ≤ j.toInt) (h1 : j.toInt < c) (k : ko (d + 1) q P (pc + 1, ls, .int (l.getD j.toNatClampNeg 0) :: r, cn, h)) : ko (d + 1) q P (pc, ls, .int j :: .ref a :: r, cn, h) :=
  ko_iaro hq hf hlo ha h0 (by rw [hl, hc]; exact h1) k
theorem ko_lald2 (hq : q ∈ mi_prog) {pc : Nat} {ls : mi_L} {r : List Value} {cn : Nat × Nat} {h : mi_H} {j : Int32} {a : Nat} {l : List Int64} {ax : mi_X} (hf : mi_find q.2 pc = some (.laload, 1, ax)) (hlo : Nat.blt a mi_RO = true) (ha : h[a]? = some (.inr (.long, .inr (.inl l)))) (hl : l.length = n) (hc : (n : Int) = c) (h0 : 0 ≤ j.toInt) (h1 : j.toInt < c) (k : ko (d + 1) q P (pc + 1, ls, .long (l.getD j.toNatClampNeg 0) :: r, cn, h)) : ko (d + 1) q P (pc, ls, .int j :: .ref a :: r, cn, h) :=
  ko_lald hq hf hlo ha h0 (by rw [hl, hc]; exact h1) k
theorem ko_iast2 (hq : q ∈ mi_prog) {pc : Nat} {ls : mi_L} {r : List Value} {cn : Nat × Nat} {h : mi_H} {x j : Int32} {a : Nat} {l : List Int32} {ax : mi_X} (hf : mi_find q.2 pc = some (.iastore, 1, ax)) (hlo : Nat.blt a mi_RO = true) (ha : h[a]? = some (.inr (.int, .inl l))) (hl : l.length = n) (hc : (n : Int) = c) (h0 : 0 ≤ j.toInt) (h1 : j.toInt < c) {h2 : mi_H} (he : h.set a (.inr (.int, .inl (l.set j.toNatClampNeg x))) = h2) (k : ko (d + 1) q P (pc + 1, ls, r, cn, h2)) : ko (d + 1) q P (pc, ls, .int x :: .int j :: .ref a :: r, cn, h) := by
  subst he
  exact ko_iast hq hf hlo ha h0 (by rw [hl, hc]; exact h1) k
theorem ko_last2 (hq : q ∈ mi_prog) {pc : Nat} {ls : mi_L} {r : List Value} {cn : Nat × Nat} {h : mi_H} {x : Int64} {j : Int32} {a : Nat} {l : List Int64} {ax : mi_X} (hf : mi_find q.2 pc = some (.lastore, 1, ax)) (hlo : Nat.blt a mi_RO = true) (ha : h[a]? = some (.inr (.long, .inr (.inl l)))) (hl : l.length = n) (hc : (n : Int) = c) (h0 : 0 ≤ j.toInt) (h1 : j.toInt < c) {h2 : mi_H} (he : h.set a (.inr (.long, .inr (.inl (l.set j.toNatClampNeg x)))) = h2) (k : ko (d + 1) q P (pc + 1, ls, r, cn, h2)) : ko (d + 1) q P (pc, ls, .long x :: .int j :: .ref a :: r, cn, h) := by
  subst he
  exact ko_last hq hf hlo ha h0 (by rw [hl, hc]; exact h1) k
variable {m : Nat} {b : Int}
theorem ko_copyI2 (hq : q ∈ mi_prog) {pc : Nat} {ls : mi_L} {rest : List Value} {cn : Nat × Nat} {h : mi_H} {n1 dp sp : Int32} {x y : Nat} {l g : List Int32} {idx : Nat} {b1 : Nat} {v : Int} {z : Nat} (hf : mi_find q.2 pc = some (.invokestatic idx, 3, 0, b1, 11, v, z)) (hx : Nat.blt x mi_RO = true) (hy : Nat.blt y mi_RO = true) (hs : Nat.ble (mi_sum rest) 8 = true) (hl : h[x]? = some (.inr (.int, .inl l))) (hg : h[y]? = some (.inr (.int, .inl g))) (hn : l.length = n) (hc : (n : Int) = c) (hm : g.length = m) (hb : (m : Int) = b) (h0 : 0 ≤ n1.toInt) (h1 : 0 ≤ sp.toInt) (h2 : 0 ≤ dp.toInt) (h3 : sp.toInt + n1.toInt ≤ c) (h4 : dp.toInt + n1.toInt ≤ b)
    {h5 : mi_H} (he : h.set y (.inr (.int, .inl (mi_cpy l g sp.toNatClampNeg dp.toNatClampNeg n1.toNatClampNeg))) = h5) (k : ko (d + 1) q P (pc + 3, ls, rest, cn, h5)) : ko (d + 1) q P (pc, ls, .int n1 :: .int dp :: .ref y :: .int sp :: .ref x :: rest, cn, h) := by
  subst he
  exact ko_copyI hq hf hx hy hs hl hg h0 h1 h2 (by rw [hn, hc]; exact h3) (by rw [hm, hb]; exact h4) k
theorem ko_copyL2 (hq : q ∈ mi_prog) {pc : Nat} {ls : mi_L} {rest : List Value} {cn : Nat × Nat} {h : mi_H} {n1 dp sp : Int32} {x y : Nat} {l g : List Int64} {idx : Nat} {b1 : Nat} {v : Int} {z : Nat} (hf : mi_find q.2 pc = some (.invokestatic idx, 3, 0, b1, 11, v, z)) (hx : Nat.blt x mi_RO = true) (hy : Nat.blt y mi_RO = true) (hs : Nat.ble (mi_sum rest) 8 = true) (hl : h[x]? = some (.inr (.long, .inr (.inl l)))) (hg : h[y]? = some (.inr (.long, .inr (.inl g)))) (hn : l.length = n) (hc : (n : Int) = c) (hm : g.length = m) (hb : (m : Int) = b) (h0 : 0 ≤ n1.toInt) (h1 : 0 ≤ sp.toInt) (h2 : 0 ≤ dp.toInt) (h3 : sp.toInt + n1.toInt ≤ c) (h4 : dp.toInt + n1.toInt ≤ b)
    {h5 : mi_H} (he : h.set y (.inr (.long, .inr (.inl (mi_cpy l g sp.toNatClampNeg dp.toNatClampNeg n1.toNatClampNeg)))) = h5) (k : ko (d + 1) q P (pc + 3, ls, rest, cn, h5)) : ko (d + 1) q P (pc, ls, .int n1 :: .int dp :: .ref y :: .int sp :: .ref x :: rest, cn, h) := by
  subst he
  exact ko_copyL hq hf hx hy hs hl hg h0 h1 h2 (by rw [hn, hc]; exact h3) (by rw [hm, hb]; exact h4) k
theorem kcpy_len2 {α : Type} {l g : List α} {sp dp n1 : Int32} (hn : l.length = n) (hc : (n : Int) = c) (hm : g.length = m) (hb : (m : Int) = b) (h0 : 0 ≤ n1.toInt) (h1 : 0 ≤ sp.toInt) (h2 : 0 ≤ dp.toInt) (h3 : sp.toInt + n1.toInt ≤ c) (h4 : dp.toInt + n1.toInt ≤ b) : (mi_cpy l g sp.toNatClampNeg dp.toNatClampNeg n1.toNatClampNeg).length = m := by
  have e1 := Int32.toNat_toInt sp
  have e2 := Int32.toNat_toInt dp
  have e3 := Int32.toNat_toInt n1
  rw [mi_cpy_len (by omega) (by omega), hm]
theorem kgs_eq2 {l : List Int32} {j : Int32} {x : Int32} (hl : l.length = n) (hc : (n : Int) = c) (h0 : 0 ≤ j.toInt) (h1 : j.toInt < c) : (l.set j.toNatClampNeg x).getD j.toNatClampNeg 0 = x := by
  have e := Int32.toNat_toInt j
  exact kgs_eq (by omega)
end KA
theorem kj_eq {x y : Int32} {c : Int} (h : x.toInt = c) (hy : y.toInt = c) : x = y := Int32.toInt_inj.mp (h.trans hy.symm)
theorem kj_meas {m1 m : Int} {n : Nat} (h : m1 < m) (h1 : 1 ≤ m) (hm : m.toNat < n + 1) : m1.toNat < n := by omega
/-! stores into int arrays: the new contents under a name of their own -/
theorem ku_ext {T : Type} {f g : Nat → T} {p : Nat} {v : T} (e : g p = v) (h : ∀ n, n ≠ p → g n = f n) : g = ku f p v := by
  funext n
  by_cases z : n = p
  · subst z; rw [ku_same]; exact e
  · rw [ku_other f v z]; exact h n z
theorem kG_a3 {w : kW} {i0 i : Nat → Int32} {a0 a a2 : Nat → List Int32} {q0 q : Nat → List Int64} {r0 r : Nat → Nat} (h : kG w i0 a0 q0 r0 i a q r) (p : Nat) (hk : kM w.2.1 p = true) {j : Nat} {v : Int32} (e : a2 p = (a p).set j v) (f : ∀ n, n ≠ p → a2 n = a n) (hv : (kE p j).1 ≤ v.toInt ∧ v.toInt ≤ (kE p j).2) : kG w i0 a0 q0 r0 i a2 q r := by
  rw [ku_ext e f]
  exact kG_a h p hk j hv
theorem kG_al3 {w : kW} {i0 i : Nat → Int32} {a0 a a2 : Nat → List Int32} {q0 q : Nat → List Int64} {r0 r : Nat → Nat} (h : kG w i0 a0 q0 r0 i a q r) (p : Nat) (hk : kM w.2.1 p = true) {l : List Int32} (e : a2 p = l) (f : ∀ n, n ≠ p → a2 n = a n) (hl : l.length = kL p) (he : ∀ j : Nat, (kE p j).1 ≤ (l.getD j 0).toInt ∧ (l.getD j 0).toInt ≤ (kE p j).2) : kG w i0 a0 q0 r0 i a2 q r := by
  rw [ku_ext e f]
  exact kG_al h p hk hl he
section KA3
variable {d : Nat} {q : mi_M × List (Nat × mi_I)} {P : Option Value → mi_H → Prop} {n : Nat} {c : Int} {i : Nat → Int32} {a : Nat → List Int32} {q0 : Nat → List Int64} {r0 : Nat → Nat}
theorem ko_iald3 (hq : q ∈ mi_prog) {pc : Nat} {ls : mi_L} {r : List Value} {cn : Nat × Nat} {j : Int32} {p : Nat} {ax : mi_X} (hf : mi_find q.2 pc = some (.iaload, 1, ax)) (hlo : Nat.blt p mi_RO = true) (ha : (ks i a q0 r0)[p]? = some (.inr (.int, .inl (a p)))) (hl : (a p).length = n) (hc : (n : Int) = c) (h0 : 0 ≤ j.toInt) (h1 : j.toInt < c) (k : ko (d + 1) q P (pc + 1, ls, .int ((a p).getD j.toNatClampNeg 0) :: r, cn, ks i a q0 r0)) : ko (d + 1) q P (pc, ls, .int j :: .ref p :: r, cn, ks i a q0 r0) :=
  ko_iald hq hf hlo ha h0 (by rw [hl, hc]; exact h1) k
theorem ko_iast3 (hq : q ∈ mi_prog) {pc : Nat} {ls : mi_L} {r : List Value} {cn : Nat × Nat} {x j : Int32} {p : Nat} {ax : mi_X} (hf : mi_find q.2 pc = some (.iastore, 1, ax)) (hlo : Nat.blt p mi_RO = true) (ha : (ks i a q0 r0)[p]? = some (.inr (.int, .inl (a p)))) (hs : ∀ l : List Int32, (ks i a q0 r0).set p (.inr (.int, .inl l)) = ks i (ku a p l) q0 r0) (hl : (a p).length = n) (hc : (n : Int) = c) (h0 : 0 ≤ j.toInt) (h1 : j.toInt < c) (k : ∀ a2 : Nat → List Int32, a2 p = (a p).set j.toNatClampNeg x → (∀ m, m ≠ p → a2 m = a m) → ko (d + 1) q P (pc + 1, ls, r, cn, ks i a2 q0 r0)) : ko (d + 1) q P (pc, ls, .int x :: .int j :: .ref p :: r, cn, ks i a q0 r0) :=
  ko_iast2 hq hf hlo ha hl hc h0 h1 (hs _) (k _ (ku_same _ _ _) (fun m h => ku_other _ _ h))
variable {m : Nat} {b : Int}
theorem ko_copyI3 (hq : q ∈ mi_prog) {pc : Nat} {ls : mi_L} {rest : List Value} {cn : Nat × Nat} {n1 dp sp : Int32} {x y : Nat} {idx : Nat} {b1 : Nat} {v : Int} {z : Nat} (hf : mi_find q.2 pc = some (.invokestatic idx, 3, 0, b1, 11, v, z)) (hx : Nat.blt x mi_RO = true) (hy : Nat.blt y mi_RO = true) (hs : Nat.ble (mi_sum rest) 8 = true) (hl : (ks i a q0 r0)[x]? = some (.inr (.int, .inl (a x)))) (hg : (ks i a q0 r0)[y]? = some (.inr (.int, .inl (a y)))) (hst : ∀ l : List Int32, (ks i a q0 r0).set y (.inr (.int, .inl l)) = ks i (ku a y l) q0 r0) (hn : (a x).length = n) (hc : (n : Int) = c) (hm : (a y).length = m) (hb : (m : Int) = b) (h0 : 0 ≤ n1.toInt) (h1 : 0 ≤ sp.toInt) (h2 : 0 ≤ dp.toInt) (h3 : sp.toInt + n1.toInt ≤ c) (h4 : dp.toInt + n1.toInt ≤ b)
    (k : ∀ a2 : Nat → List Int32, a2 y = mi_cpy (a x) (a y) sp.toNatClampNeg dp.toNatClampNeg n1.toNatClampNeg → (∀ m, m ≠ y → a2 m = a m) → ko (d + 1) q P (pc + 3, ls, rest, cn, ks i a2 q0 r0)) : ko (d + 1) q P (pc, ls, .int n1 :: .int dp :: .ref y :: .int sp :: .ref x :: rest, cn, ks i a q0 r0) :=
  ko_copyI2 hq hf hx hy hs hl hg hn hc hm hb h0 h1 h2 h3 h4 (hst _) (k _ (ku_same _ _ _) (fun m h => ku_other _ _ h))
end KA3

