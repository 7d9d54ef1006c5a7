/-! KNOWN PLACES: a switch over a number that is known, a row of rows at a place that is known; checked by the kernel alone -/
noncomputable def fo_swB (T : List (Nat × List (Nat × mi_I))) (pc : Nat) (v : Int32) (t : Nat) : Bool := match ft_find T pc with
  | some j => (match j.1 with
    | .tableswitch d lo hi offs => (match mi_pure (.tableswitch d lo hi offs) pc 0 [] [.int v] with
      | some z => Nat.beq z.1 t
      | none => false)
    | .lookupswitch d ps => (match mi_pure (.lookupswitch d ps) pc 0 [] [.int v] with
      | some z => Nat.beq z.1 t
      | none => false)
    | _ => false)
  | none => false
noncomputable def fo_isA (T : List (Nat × List (Nat × mi_I))) (pc : Nat) : Bool := match ft_find T pc with
  | some j => (match j.1 with
    | .aaload => true
    | _ => false)
  | none => false
def fo_alB (p : Nat) (v : Int32) (z : Nat) : Bool := match ft_all[p]? with
  | some (.inr (.inr (ty, .inr (.inr l)))) => (Nat.blt p mi_RO && ty.isReference) && (!(mi_off v l.length) && decide (l.getD v.toNatClampNeg none = some z))
  | _ => false
section SW
variable {m : mi_M} {T : List (Nat × List (Nat × mi_I))} {pc t : Nat} {v : Int32} {ls : mi_L} {r : List Value}
theorem fo_ts {d lo hi : Int} {offs : Array Int} {nL : Nat} {z : Nat × mi_L × List Value} (h : mi_pure (.tableswitch d lo hi offs) pc 0 [] [.int v] = some z) : mi_pure (.tableswitch d lo hi offs) pc nL ls (.int v :: r) = some (z.1, ls, r) := by
  have h : (match decide (v.toInt < lo ∨ hi < v.toInt) with
    | true => (match mi_to pc d with | some t => some (t, ([] : mi_L), ([] : List Value)) | none => none)
    | false => (match offs[(v.toInt - lo).toNat]? with | some off => (match mi_to pc off with | some t => some (t, [], []) | none => none) | none => none)) = some z := h
  show (match decide (v.toInt < lo ∨ hi < v.toInt) with
    | true => (match mi_to pc d with | some t => some (t, ls, r) | none => none)
    | false => (match offs[(v.toInt - lo).toNat]? with | some off => (match mi_to pc off with | some t => some (t, ls, r) | none => none) | none => none)) = some (z.1, ls, r)
  cases hd : decide (v.toInt < lo ∨ hi < v.toInt) with
  | true =>
    rw [hd] at h
    dsimp only at h ⊢
    split at h
    next t ht => cases h; rfl
    next => cases h
  | false =>
    rw [hd] at h
    dsimp only at h ⊢
    split at h
    next off ho =>
      split at h
      next t ht => cases h; rfl
      next => cases h
    next => cases h
theorem fo_lks {d : Int} {ps : Array (Int × Int)} {nL : Nat} {z : Nat × mi_L × List Value} (h : mi_pure (.lookupswitch d ps) pc 0 [] [.int v] = some z) : mi_pure (.lookupswitch d ps) pc nL ls (.int v :: r) = some (z.1, ls, r) := by
  have h : (match mi_to pc (Op.lookupswitch.offset ps.toList d v.toInt) with | some t => some (t, ([] : mi_L), ([] : List Value)) | none => none) = some z := h
  show (match mi_to pc (Op.lookupswitch.offset ps.toList d v.toInt) with | some t => some (t, ls, r) | none => none) = some (z.1, ls, r)
  split at h
  next t ht => cases h; rfl
  next => cases h
theorem fo_sw1 {hp : (Nat → Int32) × (Nat → List Int32) × (Nat → List Int64) × (Nat → Nat)} {j : mi_I} {z : Nat × mi_L × List Value} (hj : ft_find T pc = some j) (h : mi_pure j.1 pc m.2.2.1 ls (.int v :: r) = some z) : ft_steps m T 1 (pc, ls, .int v :: r, hp) = some (z.1, z.2.1, z.2.2, hp) := by
  show (match ft_step m T (pc, ls, .int v :: r, hp) with
    | some x1 => some x1
    | none => none) = _
  unfold ft_step
  dsimp only
  rw [hj]
  dsimp only
  rw [h]
theorem fo_swS {hp : (Nat → Int32) × (Nat → List Int32) × (Nat → List Int64) × (Nat → Nat)} (h : fo_swB T pc v t = true) : ft_steps m T 1 (pc, ls, .int v :: r, hp) = some (t, ls, r, hp) := by
  unfold fo_swB at h
  split at h
  next j hj =>
    split at h
    next d lo hi offs he =>
      split at h
      next z hz =>
        have e := Nat.eq_of_beq_eq_true h
        have g := fo_sw1 (m := m) (hp := hp) (ls := ls) (r := r) hj (by rw [he]; exact fo_ts hz)
        rw [g, e]
      next => cases h
    next d ps he =>
      split at h
      next z hz =>
        have e := Nat.eq_of_beq_eq_true h
        have g := fo_sw1 (m := m) (hp := hp) (ls := ls) (r := r) hj (by rw [he]; exact fo_lks hz)
        rw [g, e]
      next => cases h
    next => cases h
  next => cases h
end SW
section SX
variable {q : mi_M × List (Nat × mi_I)} {T : List (Nat × List (Nat × mi_I))} {P : Option Value → mi_H → Prop} {d pc t : Nat} {x v : Int32} {ls : mi_L} {r : List Value} {i : Nat → Int32} {a : Nat → List Int32} {q0 : Nat → List Int64} {r0 : Nat → Nat}
theorem ft_swx (hq : ft_M q T) (hx : x = v) (hc : fo_swB T pc v t = true) (k : ko (d + 1) q P (t, ls, r, (0, 0), ks i a q0 r0)) : ko (d + 1) q P (pc, ls, .int x :: r, (0, 0), ks i a q0 r0) := by
  subst hx
  exact ft_go hq 1 t ls r i a q0 r0 (fo_swS hc) k
theorem fo_hal {p z : Nat} {cn : Nat × Nat} (hc : fo_alB p v z = true) : mi_hAald pc (.int v :: .ref p :: r) cn (ks i a q0 r0) = some (pc + 1, .ref z :: r, cn, ks i a q0 r0) := by
  unfold fo_alB at hc
  split at hc
  next ty l hl =>
    obtain ⟨h1, h2⟩ := Bool.and_eq_true_iff.mp hc
    obtain ⟨h3, h4⟩ := Bool.and_eq_true_iff.mp h1
    obtain ⟨h5, h6⟩ := Bool.and_eq_true_iff.mp h2
    have hh : (ks i a q0 r0)[p]? = some (.inr (ty, .inr (.inr l))) := by
      rw [ft_ks, List.getElem?_map, hl]
      rfl
    have h5 : mi_off v l.length = false := by rw [← Bool.not_eq_true']; exact h5
    unfold mi_hAald
    dsimp only
    rw [h3]
    dsimp only
    rw [hh]
    dsimp only
    rw [h5, h4]
    simp only [Bool.not_true, Bool.or_self]
    rw [of_decide_eq_true h6]
  next => cases hc
theorem ft_alx {p z : Nat} (hq : ft_M q T) (hx : x = v) (hi : fo_isA T pc = true) (hc : fo_alB p v z = true) (k : ko (d + 1) q P (pc + 1, ls, .ref z :: r, (0, 0), ks i a q0 r0)) : ko (d + 1) q P (pc, ls, .int x :: .ref p :: r, (0, 0), ks i a q0 r0) := by
  subst hx
  refine ko_steps hq.1 1 _ (pc + 1, ls, .ref z :: r, (0, 0), ks i a q0 r0) ?_ k
  show (match mi_step mi_N0 (fun _ _ _ => none) q (pc, ls, .int x :: .ref p :: r, (0, 0), ks i a q0 r0) with
    | some (.inl x1) => some x1
    | _ => none) = some (pc + 1, ls, .ref z :: r, (0, 0), ks i a q0 r0)
  unfold fo_isA at hi
  split at hi
  next j hj =>
    split at hi
    next he =>
      unfold mi_step
      dsimp only
      rw [hq.2 pc j hj]
      dsimp only
      rw [he]
      rw [show mi_pure Instr.aaload pc q.1.2.2.1 ls (.int x :: .ref p :: r) = none from rfl]
      dsimp only
      rw [show mi_hp mi_N0 (q.1.2.2.2.2.2.2.2.1, q.1.2.2.2.2.2.2.2.2) Instr.aaload j.2.2 pc (.int x :: .ref p :: r) (0, 0) (ks i a q0 r0) = mi_hAald pc (.int x :: .ref p :: r) (0, 0) (ks i a q0 r0) from rfl]
      rw [fo_hal hc]
    next => cases hi
  next => cases hi
end SX
