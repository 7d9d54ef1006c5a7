noncomputable def kAl (i : Nat → Int32) (a : Nat → List Int32) (q : Nat → List Int64) (r : Nat → Nat) : Prop := kAll i a q r ∧ kTB i a ∧ kMar i a r
theorem kst_al : kAl kst_i kst_a kst_q kst_r := ⟨kst_all, ⟨⟨by decide +kernel, by rfl⟩, kBy_all (by decide +kernel)⟩, kst_mar⟩
/-! THE LAW: its own steps, and the calls out of the cases -/
noncomputable def mi_NL (xl : List Int32) : mi_N := (mi_N0.1, fun j => match j with
  | 0 => some (.int, xl)
  | k => mi_N0.2.1 k, mi_N0.2.2)
theorem mi_Ext_mono {xl : List Int32} {base : Nat} {ra : Nat → Nat} {cT : FieldType → ClassId} {A : Nat → Prop} {U : State} {H : Heap} (h : mi_Ext (mi_NL xl) base ra cT A U H) : mi_Ext mi_N0 base ra cT A U H := by
  obtain ⟨h1, h2, h3⟩ := h
  refine ⟨h1, fun j ty l hj => ?_, h3⟩
  match j, hj with
  | 0, hj => cases hj
  | j + 1, hj => exact h2 (j + 1) ty l hj
theorem mi_Met_mono {xl : List Int32} {d : Nat} {r : mi_M} {as : List Value} {h : mi_H} {rv : Option Value} {h1 : mi_H} (hM : mi_Met mi_N0 d r as h rv h1) : mi_Met (mi_NL xl) d r as h rv h1 := by
  intro l base ra cT D p e ha hf hc s m args below hfr happ hP hK
  exact hM l base ra cT D p e ha hf hc s m args below hfr happ ⟨hP.1, hP.2.1, mi_Ext_mono hP.2.2⟩ hK
noncomputable abbrev mi_qL : mi_M × List (Nat × mi_I) := (mi_h235, mi_cL)
section MIL
variable {p : Program} {l : Launch} {e : Env} {s : State} {m : MethodId} {below : List Frame} {meth : Method} {c : Code} {b : Nat} {ra : Nat → Nat} {cT : FieldType → ClassId} {D : va_G} {xl : List Int32}
noncomputable def mi_LW (p : Program) (l : Launch) (e : Env) (s : State) (m : MethodId) (below : List Frame) (meth : Method) (c : Code) (b : Nat) (ra : Nat → Nat) (cT : FieldType → ClassId) (D : va_G) (x : mi_S) : Prop :=
  mi_Wq s.heap.size ra cT D 4 p l e room_1 s m #[Value.ref b] below meth c (lw_Z below #[Value.ref b] s) x.1 x.2.1 x.2.2.1 x.2.2.2.1 x.2.2.2.2
noncomputable abbrev mi_CxL (p : Program) (s : State) (m : MethodId) (c : Code) (b : Nat) (ra : Nat → Nat) (cT : FieldType → ClassId) (D : va_G) (xl : List Int32) : Prop := mi_Cx (mi_NL xl) s.heap.size ra cT D 204 (mi_bytes mi_h235) 4 p s m #[Value.ref b] c
theorem mi_l_step (cx : mi_CxL p s m c b ra cT D xl) {x x1 : mi_S} (hx : mi_step (mi_NL xl) (fun _ _ _ => none) mi_qL x = some (.inl x1)) (k : mi_LW p l e s m below meth c b ra cT D x1) : mi_LW p l e s m below meth c b ra cT D x :=
  mi_step_ok (R := room_1) mi_in235 cx (fun z => by cases z) ⟨Nat.le_of_ble_eq_true rfl, Nat.le_of_ble_eq_true rfl⟩ (d := 1000) ⟨Nat.le_of_ble_eq_true rfl, Nat.le_of_ble_eq_true rfl⟩ (mi_calok_none _ _) hx k
theorem mi_l_steps (cx : mi_CxL p s m c b ra cT D xl) : ∀ (n : Nat) (x x1 : mi_S), mi_steps (mi_NL xl) (fun _ _ _ => none) mi_qL n x = some x1 → mi_LW p l e s m below meth c b ra cT D x1 → mi_LW p l e s m below meth c b ra cT D x
  | 0, x, x1, h, k => by cases h; exact k
  | n + 1, x, x1, h, k => by
    have h : (match mi_step (mi_NL xl) (fun _ _ _ => none) mi_qL x with
      | some (.inl x2) => mi_steps (mi_NL xl) (fun _ _ _ => none) mi_qL n x2
      | _ => none) = some x1 := h
    split at h
    next x2 hx => exact mi_l_step cx hx (mi_l_steps cx n x2 x1 h k)
    next => cases h
theorem mi_st_sub {N : mi_N} {f : mi_F} {c1 : List (Nat × mi_I)} (hs : mi_Sub c1) {x : mi_S} {z : mi_S ⊕ mi_R} (h : mi_step N f (mi_h235, c1) x = some z) : mi_step N f mi_qL x = some z := by
  unfold mi_step at h ⊢
  dsimp only at h ⊢
  cases e : mi_find c1 x.1 with
  | none => rw [e] at h; cases h
  | some i =>
    rw [e] at h
    rw [hs _ _ e]
    exact h
theorem mi_sts_sub {N : mi_N} {f : mi_F} {c1 : List (Nat × mi_I)} (hs : mi_Sub c1) : ∀ (n : Nat) (x x1 : mi_S), mi_steps N f (mi_h235, c1) n x = some x1 → mi_steps N f mi_qL n x = some x1
  | 0, _, _, h => h
  | n + 1, x, x1, h => by
    have h : (match mi_step N f (mi_h235, c1) x with
      | some (.inl x2) => mi_steps N f (mi_h235, c1) n x2
      | _ => none) = some x1 := h
    show (match mi_step N f mi_qL x with
      | some (.inl x2) => mi_steps N f mi_qL n x2
      | _ => none) = some x1
    cases e : mi_step N f (mi_h235, c1) x with
    | none => rw [e] at h; cases h
    | some z =>
      rw [e] at h
      rw [mi_st_sub hs e]
      cases z with
      | inl x2 => exact mi_sts_sub hs n x2 x1 h
      | inr y => cases h
theorem mi_l_stepsK (cx : mi_CxL p s m c b ra cT D xl) {c1 : List (Nat × mi_I)} (hs : mi_Sub c1) (n : Nat) (x x1 : mi_S) (h : mi_steps (mi_NL xl) (fun _ _ _ => none) (mi_h235, c1) n x = some x1) (k : mi_LW p l e s m below meth c b ra cT D x1) : mi_LW p l e s m below meth c b ra cT D x := mi_l_steps cx n x x1 (mi_sts_sub hs n x x1 h) k
theorem mi_l_eq {x x1 : mi_S} (h : x = x1) (k : mi_LW p l e s m below meth c b ra cT D x1) : mi_LW p l e s m below meth c b ra cT D x := h ▸ k
theorem mi_l_b (cx : mi_CxL p s m c b ra cT D xl) {x : mi_S} (cb bb : Bool) (hb : cb = bb) (t u : Nat) (z : mi_L × List Value × (Nat × Nat) × mi_H) (hx : mi_step (mi_NL xl) (fun _ _ _ => none) mi_qL x = some (.inl (bif cb then t else u, z))) (k : mi_LW p l e s m below meth c b ra cT D (bif bb then t else u, z)) : mi_LW p l e s m below meth c b ra cT D x := by
  subst hb
  exact mi_l_step cx hx k
theorem mi_l_call (cx : mi_CxL p s m c b ra cT D xl) {x : mi_S} {i : mi_I} (hf : mi_find mi_cL x.1 = some i) {y : Nat} {r : mi_M} {as rest : List Value} (hi : mi_inv (mi_NL xl) i.1 i.2.2 x.2.2.1 x.2.2.2.2 = some (y, r, as, rest)) {d1 : Nat} {rv1 : Option Value} {h2 : mi_H} (hM : mi_Met mi_N0 d1 r as x.2.2.2.2 rv1 h2) (hd : d1 ≤ 100) (hc : Nat.ble (x.2.2.2.1.1 + r.2.2.2.2.2.2.2.1) 149 = true ∧ Nat.ble (x.2.2.2.1.2 + r.2.2.2.2.2.2.2.2) 5163 = true)
    (k : mi_LW p l e s m below meth c b ra cT D (x.1 + 3, x.2.1, rv1.toList ++ rest, (x.2.2.2.1.1 + r.2.2.2.2.2.2.2.1, x.2.2.2.1.2 + r.2.2.2.2.2.2.2.2), h2)) : mi_LW p l e s m below meth c b ra cT D x := by
  obtain ⟨hdc, hlen, hok⟩ := mi_prog_in mi_in235 hf
  have h1 := Nat.le_of_ble_eq_true hc.1
  have h2 := Nat.le_of_ble_eq_true hc.2
  exact mi_inv_ok (R := room_1) cx hdc hlen hok hi (mi_Met_mono hM) ⟨by show d1 + 2 ≤ 2048; omega, by show 60 * d1 + 120 ≤ 84000; omega⟩ ⟨by show _ ≤ 600000; omega, by show _ ≤ 7302250; omega⟩ k
theorem mi_l_sw (cx : mi_CxL p s m c b ra cT D xl) {pc : Nat} {ls : mi_L} {r : List Value} {cn : Nat × Nat} {h : mi_H} {v : Int32} {i : mi_I} {dd lo hi : Int} {offs : Array Int} (hf : mi_find mi_cL pc = some i) (hi0 : i.1 = .tableswitch dd lo hi offs) (hv : v.toInt < lo ∨ hi < v.toInt) (t : Nat) (ht : mi_to pc dd = some t) (k : mi_LW p l e s m below meth c b ra cT D (t, ls, r, cn, h)) : mi_LW p l e s m below meth c b ra cT D (pc, ls, .int v :: r, cn, h) := by
  refine mi_l_step cx (x1 := (t, ls, r, cn, h)) ?_ k
  unfold mi_step
  dsimp only
  rw [hf]
  dsimp only
  rw [hi0]
  have e : mi_pure (.tableswitch dd lo hi offs) pc mi_h235.2.2.1 ls (.int v :: r) = some (t, ls, r) := by
    simp only [mi_pure]
    rw [decide_eq_true hv]
    dsimp only
    rw [ht]
  rw [e]
set_option maxRecDepth 100000 in
set_option maxHeartbeats 4000000 in
theorem mi_l_fin (cx : mi_CxL p s m c b ra cT D xl) (hr : meth.sig.returnType = ret) (hlocks : meth.locks = false) {ls : mi_L} {h : mi_H} {cn : Nat × Nat} (hc : cn.1 ≤ 600000 ∧ cn.2 ≤ 7302250) : mi_LW p l e s m below meth c b ra cT D (1501, ls, [.int 1], cn, h) := by
  intro H locs ar hsz hP hKA hS har
  refine va_forget (fun q hq => hS.2.2 q hq) ?_
  refine W.widen (k := 600000) (n := 7302250) hc.1 hc.2 ?_
  have hd := (mi_prog_in mi_in235 (pc := 1501) (i := (.ireturn, 1, 0, 0, 0, 0, 0)) (by rfl)).1
  exact lw_ret cx.1 cx.2.1 hr hlocks hd
theorem mi_l_and (a : Int32) : 0 ≤ (a &&& 63).toInt ∧ (a &&& 63).toInt ≤ 63 := by
  obtain ⟨j, hj, e⟩ := pk_andE a (m := 63) 6 (by decide)
  rw [e, nI_toInt (by omega)]
  omega
theorem mi_l_cmp (r : Int64) : lg_cmp r r = 0 := by
  have h : ¬ r < r := Int64.lt_irrefl
  simp [lg_cmp, h]
set_option maxRecDepth 100000 in
set_option maxHeartbeats 4000000 in
theorem mk_at18 (cx : mi_CxL p s m c b ra cT D xl) {v : Int32} {h : mi_H} (bb : Bool) (hb : decide (Int32.ofNat xl.length - 6 < v) = bb) (k : mi_LW p l e s m below meth c b ra cT D (bif bb then 1500 else 27, [(3, .int v), (2, .ref 116), (1, .ref 0), (0, .ref mi_RO)], [], (149, 5163), h)) : mi_LW p l e s m below meth c b ra cT D (18, [(3, .int v), (2, .ref 116), (1, .ref 0), (0, .ref mi_RO)], [], (149, 5163), h) := by
  refine mi_l_steps cx 5 _ (24, [(3, .int v), (2, .ref 116), (1, .ref 0), (0, .ref mi_RO)], [.int (Int32.ofNat xl.length - 6), .int v], (149, 5163), h) (by rfl) ?_
  exact mi_l_b cx (decide (Int32.ofNat xl.length - 6 < v)) bb hb 1500 27 ([(3, .int v), (2, .ref 116), (1, .ref 0), (0, .ref mi_RO)], [], (149, 5163), h) (by rfl) k
set_option maxRecDepth 100000 in
set_option maxHeartbeats 4000000 in
theorem mk_out (cx : mi_CxL p s m c b ra cT D xl) (hr : meth.sig.returnType = ret) (hlocks : meth.locks = false) {v : Int32} {h : mi_H} : mi_LW p l e s m below meth c b ra cT D (1500, [(3, .int v), (2, .ref 116), (1, .ref 0), (0, .ref mi_RO)], [], (149, 5163), h) := by
  refine mi_l_steps cx 1 _ (1501, [(3, .int v), (2, .ref 116), (1, .ref 0), (0, .ref mi_RO)], [.int 1], (149, 5163), h) (by rfl) ?_
  exact mi_l_fin cx hr hlocks ⟨by decide, by decide⟩
noncomputable def kArg (xl : List Int32) (j x : Int32) : Prop := 0 ≤ j.toInt ∧ j.toInt < xl.length ∧ xl.getD j.toNatClampNeg 0 = x
set_option maxRecDepth 100000 in
set_option maxHeartbeats 4000000 in
theorem mi_l_iald (cx : mi_CxL p s m c b ra cT D xl) {pc : Nat} {ls : mi_L} {r : List Value} {cn : Nat × Nat} {h : mi_H} {j x : Int32} {ax : mi_X} (hf : mi_find mi_cL pc = some (.iaload, 1, ax)) (ea : kArg xl j x) (k : mi_LW p l e s m below meth c b ra cT D (pc + 1, ls, .int x :: r, cn, h)) : mi_LW p l e s m below meth c b ra cT D (pc, ls, .int j :: .ref mi_RO :: r, cn, h) := by
  refine mi_l_step cx (x1 := (pc + 1, ls, .int x :: r, cn, h)) ?_ k
  have e0 := mi_iaro (N := mi_NL xl) (pc := pc) (r := r) (cn := cn) (h := h) (j := j) (a := mi_RO) (l := xl) (by rfl) (by rw [Nat.sub_self]; rfl) (mi_offok ea.1 ea.2.1)
  have e2 : mi_hp (mi_NL xl) (mi_qL.1.2.2.2.2.2.2.2.1, mi_qL.1.2.2.2.2.2.2.2.2) .iaload ax pc (.int j :: .ref mi_RO :: r) cn h = some (pc + 1, .int x :: r, cn, h) := by
    rw [← ea.2.2]
    exact e0
  unfold mi_step
  dsimp only
  rw [hf]
  dsimp only
  rw [(rfl : mi_pure .iaload pc mi_qL.1.2.2.1 ls (.int j :: .ref mi_RO :: r) = none)]
  dsimp only
  rw [e2]
  rfl
theorem mi_l_callP (cx : mi_CxL p s m c b ra cT D xl) {pc : Nat} {ls : mi_L} {st : List Value} {h : mi_H} {i : mi_I} (hf : mi_find mi_cL pc = some i) {y : Nat} {r : mi_M} {as rest : List Value} (hi : mi_inv (mi_NL xl) i.1 i.2.2 st h = some (y, r, as, rest)) {cy : List (Nat × mi_I)} (hy : mi_prog[y]? = some (r, cy)) (hz : r.2.2.2.2.2.2.2 = (0, 0)) {d1 : Nat} {P1 : Option Value → mi_H → Prop} (hM : km d1 y as h P1) (hd : d1 ≤ 100)
    (k : ∀ rv h2, P1 rv h2 → mi_LW p l e s m below meth c b ra cT D (pc + 3, ls, rv.toList ++ rest, (149, 5163), h2)) : mi_LW p l e s m below meth c b ra cT D (pc, ls, st, (149, 5163), h) := by
  obtain ⟨rv, h2, q, hq, M, hP⟩ := hM
  rw [hy] at hq
  cases hq
  refine mi_l_call cx (x := (pc, ls, st, (149, 5163), h)) hf hi M hd ?_ ?_
  · show Nat.ble (149 + r.2.2.2.2.2.2.2.1) 149 = true ∧ Nat.ble (5163 + r.2.2.2.2.2.2.2.2) 5163 = true
    rw [hz]
    exact ⟨rfl, rfl⟩
  · show mi_LW p l e s m below meth c b ra cT D (pc + 3, ls, rv.toList ++ rest, (149 + r.2.2.2.2.2.2.2.1, 5163 + r.2.2.2.2.2.2.2.2), h2)
    rw [hz]
    exact k rv h2 hP
theorem mi_l_callI (cx : mi_CxL p s m c b ra cT D xl) {pc : Nat} {ls : mi_L} {st : List Value} {h : mi_H} {i : mi_I} (hf : mi_find mi_cL pc = some i) {y : Nat} {r : mi_M} {as rest : List Value} (hi : mi_inv (mi_NL xl) i.1 i.2.2 st h = some (y, r, as, rest)) {cy : List (Nat × mi_I)} (hy : mi_prog[y]? = some (r, cy)) (hz : r.2.2.2.2.2.2.2 = (0, 0)) {d1 : Nat} {w : kW} {i0 : Nat → Int32} {a0 : Nat → List Int32} {q0 : Nat → List Int64} {r0 : Nat → Nat} {Q : Int32 → (Nat → Int32) → (Nat → List Int32) → (Nat → List Int64) → (Nat → Nat) → Prop} (hM : km d1 y as h (kVI w i0 a0 q0 r0 Q)) (hd : d1 ≤ 100)
    (k : ∀ v i1 a1 q1 r1, kG w i0 a0 q0 r0 i1 a1 q1 r1 → Q v i1 a1 q1 r1 → mi_LW p l e s m below meth c b ra cT D (pc + 3, ls, .int v :: rest, (149, 5163), ks i1 a1 q1 r1)) : mi_LW p l e s m below meth c b ra cT D (pc, ls, st, (149, 5163), h) :=
  mi_l_callP cx hf hi hy hz hM hd (fun rv h2 ⟨v, i1, a1, q1, r1, e1, e2, hG, hQ⟩ => by subst e1; subst e2; exact k v i1 a1 q1 r1 hG hQ)
theorem mi_l_callPI (cx : mi_CxL p s m c b ra cT D xl) {pc : Nat} {ls : mi_L} {st : List Value} {h : mi_H} {i : mi_I} (hf : mi_find mi_cL pc = some i) {y : Nat} {r : mi_M} {as rest : List Value} (hi : mi_inv (mi_NL xl) i.1 i.2.2 st h = some (y, r, as, rest)) {cy : List (Nat × mi_I)} (hy : mi_prog[y]? = some (r, cy)) (hz : r.2.2.2.2.2.2.2 = (0, 0)) {d1 : Nat} {Q : Int32 → Prop} (hM : km d1 y as h (kPI h Q)) (hd : d1 ≤ 100)
    (k : ∀ v, Q v → mi_LW p l e s m below meth c b ra cT D (pc + 3, ls, .int v :: rest, (149, 5163), h)) : mi_LW p l e s m below meth c b ra cT D (pc, ls, st, (149, 5163), h) :=
  mi_l_callP cx hf hi hy hz hM hd (fun rv h2 ⟨v, e1, e2, hQ⟩ => by subst e1; subst e2; exact k v hQ)
theorem mi_l_callPL (cx : mi_CxL p s m c b ra cT D xl) {pc : Nat} {ls : mi_L} {st : List Value} {h : mi_H} {i : mi_I} (hf : mi_find mi_cL pc = some i) {y : Nat} {r : mi_M} {as rest : List Value} (hi : mi_inv (mi_NL xl) i.1 i.2.2 st h = some (y, r, as, rest)) {cy : List (Nat × mi_I)} (hy : mi_prog[y]? = some (r, cy)) (hz : r.2.2.2.2.2.2.2 = (0, 0)) {d1 : Nat} {Q : Int64 → Prop} (hM : km d1 y as h (kPL h Q)) (hd : d1 ≤ 100)
    (k : ∀ v, Q v → mi_LW p l e s m below meth c b ra cT D (pc + 3, ls, .long v :: rest, (149, 5163), h)) : mi_LW p l e s m below meth c b ra cT D (pc, ls, st, (149, 5163), h) :=
  mi_l_callP cx hf hi hy hz hM hd (fun rv h2 ⟨v, e1, e2, hQ⟩ => by subst e1; subst e2; exact k v hQ)
set_option maxRecDepth 100000 in
set_option maxHeartbeats 4000000 in
theorem ml_buyer (cx : mi_CxL p s m c b ra cT D xl) {v : Int32} {i : Nat → Int32} {a : Nat → List Int32} {q : Nat → List Int64} {r : Nat → Nat} {x1 : Int32} {x2 : Int32} (K : kAl i a q r) (k : ∀ i a q r, kAl i a q r → mi_LW p l e s m below meth c b ra cT D (1494, [(3, .int v), (2, .ref 116), (1, .ref 0), (0, .ref mi_RO)], [], (149, 5163), ks i a q r)) (A1 : kArg xl (v + 1) x1) (A2 : kArg xl (v + 2) x2) : mi_LW p l e s m below meth c b ra cT D (200, [(3, .int v), (2, .ref 116), (1, .ref 0), (0, .ref mi_RO)], [], (149, 5163), ks i a q r) := by
  obtain ⟨K, R0, R1⟩ := K
  refine mi_l_stepsK cx mi_sL1 5 _ (205, [(3, .int v), (2, .ref 116), (1, .ref 0), (0, .ref mi_RO)], [.int (v + 1), .ref mi_RO, .ref 0], (149, 5163), ks i a q r) (by rfl) ?_
  refine mi_l_iald cx (ax := (0, 0, 0, 0, 0)) (mi_sL1 _ _ (by rfl)) A1 ?_
  refine mi_l_stepsK cx mi_sL1 4 _ (210, [(3, .int v), (2, .ref 116), (1, .ref 0), (0, .ref mi_RO)], [.int (v + 2), .ref mi_RO, .int x1, .ref 0], (149, 5163), ks i a q r) (by rfl) ?_
  refine mi_l_iald cx (ax := (0, 0, 0, 0, 0)) (mi_sL1 _ _ (by rfl)) A2 ?_
  refine mi_l_callI cx (pc := 211) (ls := [(3, .int v), (2, .ref 116), (1, .ref 0), (0, .ref mi_RO)]) (st := [.int x2, .int x1, .ref 0]) (h := ks i a q r) (i := (.invokevirtual 13, 3, 80, 0, 9, 0, 150)) (mi_sL1 _ _ (by rfl)) (by rfl) (cy := mi_c80) rfl rfl (ke80_0 K.1.1 K.1.2 x1 x2) (Nat.le_of_ble_eq_true rfl) ?_
  intro u1 i1 a1 q1 r1 g1 P1
  have g1I := g1.I
  have g1R := g1.R
  have KU1 := kAll_fr g1 (by decide +kernel) K
  refine mi_l_stepsK cx mi_sL1 6 _ (220, [(3, .int v), (2, .ref 116), (1, .ref 0), (0, .ref mi_RO)], [.int (v + 1), .ref mi_RO, .ref 116], (149, 5163), ks i1 a1 q1 r1) (by rfl) ?_
  refine mi_l_iald cx (ax := (0, 0, 0, 0, 0)) (mi_sL1 _ _ (by rfl)) A1 ?_
  refine mi_l_stepsK cx mi_sL1 4 _ (225, [(3, .int v), (2, .ref 116), (1, .ref 0), (0, .ref mi_RO)], [.int (v + 2), .ref mi_RO, .int x1, .ref 116], (149, 5163), ks i1 a1 q1 r1) (by rfl) ?_
  refine mi_l_iald cx (ax := (0, 0, 0, 0, 0)) (mi_sL1 _ _ (by rfl)) A2 ?_
  refine mi_l_callI cx (pc := 226) (ls := [(3, .int v), (2, .ref 116), (1, .ref 0), (0, .ref mi_RO)]) (st := [.int x2, .int x1, .ref 116]) (h := ks i1 a1 q1 r1) (i := (.invokevirtual 17, 3, 135, 0, 9, 0, 378)) (mi_sL1 _ _ (by rfl)) (by rfl) (cy := mi_c135) rfl rfl (ke135_116 g1I g1R x1 x2) (Nat.le_of_ble_eq_true rfl) ?_
  intro u2 i2 a2 q2 r2 g2 P2
  have K2 := kAll_fr g2 (by decide +kernel) KU1
  have Rn0 := kTB_fr g2 (by decide +kernel) (kTB_fr g1 (by decide +kernel) R0)
  obtain ⟨Rn1, ev⟩ := st_buyer K.1 R1 g1 P1 g2 P2
  refine mi_l_stepsK cx mi_sL1 2 _ (1494, [(3, .int v), (2, .ref 116), (1, .ref 0), (0, .ref mi_RO)], [], (149, 5163), ks i2 a2 q2 r2) (by rfl) ?_
  exact k _ _ _ _ ⟨K2, Rn0, Rn1⟩
set_option maxRecDepth 100000 in
set_option maxHeartbeats 4000000 in
theorem ml_buyers (cx : mi_CxL p s m c b ra cT D xl) {v : Int32} {i : Nat → Int32} {a : Nat → List Int32} {q : Nat → List Int64} {r : Nat → Nat} {x1 : Int32} {x2 : Int32} {x3 : Int32} (K : kAl i a q r) (k : ∀ i a q r, kAl i a q r → mi_LW p l e s m below meth c b ra cT D (1494, [(3, .int v), (2, .ref 116), (1, .ref 0), (0, .ref mi_RO)], [], (149, 5163), ks i a q r)) (A1 : kArg xl (v + 1) x1) (A2 : kArg xl (v + 2) x2) (A3 : kArg xl (v + 3) x3) : mi_LW p l e s m below meth c b ra cT D (233, [(3, .int v), (2, .ref 116), (1, .ref 0), (0, .ref mi_RO)], [], (149, 5163), ks i a q r) := by
  obtain ⟨K, R0, R1⟩ := K
  refine mi_l_stepsK cx mi_sL2 5 _ (238, [(3, .int v), (2, .ref 116), (1, .ref 0), (0, .ref mi_RO)], [.int (v + 1), .ref mi_RO, .ref 0], (149, 5163), ks i a q r) (by rfl) ?_
  refine mi_l_iald cx (ax := (0, 0, 0, 0, 0)) (mi_sL2 _ _ (by rfl)) A1 ?_
  refine mi_l_stepsK cx mi_sL2 4 _ (243, [(3, .int v), (2, .ref 116), (1, .ref 0), (0, .ref mi_RO)], [.int (v + 2), .ref mi_RO, .int x1, .ref 0], (149, 5163), ks i a q r) (by rfl) ?_
  refine mi_l_iald cx (ax := (0, 0, 0, 0, 0)) (mi_sL2 _ _ (by rfl)) A2 ?_
  refine mi_l_stepsK cx mi_sL2 4 _ (248, [(3, .int v), (2, .ref 116), (1, .ref 0), (0, .ref mi_RO)], [.int (v + 3), .ref mi_RO, .int x2, .int x1, .ref 0], (149, 5163), ks i a q r) (by rfl) ?_
  refine mi_l_iald cx (ax := (0, 0, 0, 0, 0)) (mi_sL2 _ _ (by rfl)) A3 ?_
  refine mi_l_callI cx (pc := 249) (ls := [(3, .int v), (2, .ref 116), (1, .ref 0), (0, .ref mi_RO)]) (st := [.int x3, .int x2, .int x1, .ref 0]) (h := ks i a q r) (i := (.invokevirtual 18, 3, 81, 0, 9, 0, 156)) (mi_sL2 _ _ (by rfl)) (by rfl) (cy := mi_c81) rfl rfl (ke81_0 K.1.1 K.1.2 x1 x2 x3) (Nat.le_of_ble_eq_true rfl) ?_
  intro u1 i1 a1 q1 r1 g1 P1
  have g1I := g1.I
  have g1R := g1.R
  have KU1 := kAll_fr g1 (by decide +kernel) K
  refine mi_l_stepsK cx mi_sL2 6 _ (258, [(3, .int v), (2, .ref 116), (1, .ref 0), (0, .ref mi_RO)], [.int (v + 1), .ref mi_RO, .ref 116], (149, 5163), ks i1 a1 q1 r1) (by rfl) ?_
  refine mi_l_iald cx (ax := (0, 0, 0, 0, 0)) (mi_sL2 _ _ (by rfl)) A1 ?_
  refine mi_l_stepsK cx mi_sL2 4 _ (263, [(3, .int v), (2, .ref 116), (1, .ref 0), (0, .ref mi_RO)], [.int (v + 2), .ref mi_RO, .int x1, .ref 116], (149, 5163), ks i1 a1 q1 r1) (by rfl) ?_
  refine mi_l_iald cx (ax := (0, 0, 0, 0, 0)) (mi_sL2 _ _ (by rfl)) A2 ?_
  refine mi_l_stepsK cx mi_sL2 4 _ (268, [(3, .int v), (2, .ref 116), (1, .ref 0), (0, .ref mi_RO)], [.int (v + 3), .ref mi_RO, .int x2, .int x1, .ref 116], (149, 5163), ks i1 a1 q1 r1) (by rfl) ?_
  refine mi_l_iald cx (ax := (0, 0, 0, 0, 0)) (mi_sL2 _ _ (by rfl)) A3 ?_
  refine mi_l_callI cx (pc := 269) (ls := [(3, .int v), (2, .ref 116), (1, .ref 0), (0, .ref mi_RO)]) (st := [.int x3, .int x2, .int x1, .ref 116]) (h := ks i1 a1 q1 r1) (i := (.invokevirtual 22, 3, 136, 0, 9, 0, 381)) (mi_sL2 _ _ (by rfl)) (by rfl) (cy := mi_c136) rfl rfl (ke136_116 g1I g1R x1 x2 x3) (Nat.le_of_ble_eq_true rfl) ?_
  intro u2 i2 a2 q2 r2 g2 P2
  have K2 := kAll_fr g2 (by decide +kernel) KU1
  have Rn0 := kTB_fr g2 (by decide +kernel) (kTB_fr g1 (by decide +kernel) R0)
  obtain ⟨Rn1, ev⟩ := st_buyers K R1 g1 P1 g2 P2
  refine mi_l_stepsK cx mi_sL2 2 _ (1494, [(3, .int v), (2, .ref 116), (1, .ref 0), (0, .ref mi_RO)], [], (149, 5163), ks i2 a2 q2 r2) (by rfl) ?_
  exact k _ _ _ _ ⟨K2, Rn0, Rn1⟩
set_option maxRecDepth 100000 in
set_option maxHeartbeats 4000000 in
theorem ml_mend (cx : mi_CxL p s m c b ra cT D xl) {v : Int32} {i : Nat → Int32} {a : Nat → List Int32} {q : Nat → List Int64} {r : Nat → Nat} {x1 : Int32} {x2 : Int32} {x3 : Int32} (K : kAl i a q r) (k : ∀ i a q r, kAl i a q r → mi_LW p l e s m below meth c b ra cT D (1494, [(3, .int v), (2, .ref 116), (1, .ref 0), (0, .ref mi_RO)], [], (149, 5163), ks i a q r)) (A1 : kArg xl (v + 1) x1) (A2 : kArg xl (v + 2) x2) (A3 : kArg xl (v + 3) x3) : mi_LW p l e s m below meth c b ra cT D (276, [(3, .int v), (2, .ref 116), (1, .ref 0), (0, .ref mi_RO)], [], (149, 5163), ks i a q r) := by
  obtain ⟨K, R0, R1⟩ := K
  refine mi_l_stepsK cx mi_sL3 5 _ (281, [(3, .int v), (2, .ref 116), (1, .ref 0), (0, .ref mi_RO)], [.int (v + 1), .ref mi_RO, .ref 0], (149, 5163), ks i a q r) (by rfl) ?_
  refine mi_l_iald cx (ax := (0, 0, 0, 0, 0)) (mi_sL3 _ _ (by rfl)) A1 ?_
  refine mi_l_stepsK cx mi_sL3 4 _ (286, [(3, .int v), (2, .ref 116), (1, .ref 0), (0, .ref mi_RO)], [.int (v + 2), .ref mi_RO, .int x1, .ref 0], (149, 5163), ks i a q r) (by rfl) ?_
  refine mi_l_iald cx (ax := (0, 0, 0, 0, 0)) (mi_sL3 _ _ (by rfl)) A2 ?_
  refine mi_l_stepsK cx mi_sL3 4 _ (291, [(3, .int v), (2, .ref 116), (1, .ref 0), (0, .ref mi_RO)], [.int (v + 3), .ref mi_RO, .int x2, .int x1, .ref 0], (149, 5163), ks i a q r) (by rfl) ?_
  refine mi_l_iald cx (ax := (0, 0, 0, 0, 0)) (mi_sL3 _ _ (by rfl)) A3 ?_
  refine mi_l_callI cx (pc := 292) (ls := [(3, .int v), (2, .ref 116), (1, .ref 0), (0, .ref mi_RO)]) (st := [.int x3, .int x2, .int x1, .ref 0]) (h := ks i a q r) (i := (.invokevirtual 23, 3, 83, 0, 9, 0, 160)) (mi_sL3 _ _ (by rfl)) (by rfl) (cy := mi_c83) rfl rfl (ke83_0 K.1.1 K.1.2 x1 x2 x3) (Nat.le_of_ble_eq_true rfl) ?_
  intro u1 i1 a1 q1 r1 g1 P1
  have g1I := g1.I
  have g1R := g1.R
  have KU1 := kAll_fr g1 (by decide +kernel) K
  refine mi_l_stepsK cx mi_sL3 6 _ (301, [(3, .int v), (2, .ref 116), (1, .ref 0), (0, .ref mi_RO)], [.int (v + 1), .ref mi_RO, .ref 116], (149, 5163), ks i1 a1 q1 r1) (by rfl) ?_
  refine mi_l_iald cx (ax := (0, 0, 0, 0, 0)) (mi_sL3 _ _ (by rfl)) A1 ?_
  refine mi_l_stepsK cx mi_sL3 4 _ (306, [(3, .int v), (2, .ref 116), (1, .ref 0), (0, .ref mi_RO)], [.int (v + 2), .ref mi_RO, .int x1, .ref 116], (149, 5163), ks i1 a1 q1 r1) (by rfl) ?_
  refine mi_l_iald cx (ax := (0, 0, 0, 0, 0)) (mi_sL3 _ _ (by rfl)) A2 ?_
  refine mi_l_stepsK cx mi_sL3 4 _ (311, [(3, .int v), (2, .ref 116), (1, .ref 0), (0, .ref mi_RO)], [.int (v + 3), .ref mi_RO, .int x2, .int x1, .ref 116], (149, 5163), ks i1 a1 q1 r1) (by rfl) ?_
  refine mi_l_iald cx (ax := (0, 0, 0, 0, 0)) (mi_sL3 _ _ (by rfl)) A3 ?_
  refine mi_l_callI cx (pc := 312) (ls := [(3, .int v), (2, .ref 116), (1, .ref 0), (0, .ref mi_RO)]) (st := [.int x3, .int x2, .int x1, .ref 116]) (h := ks i1 a1 q1 r1) (i := (.invokevirtual 26, 3, 142, 0, 9, 0, 385)) (mi_sL3 _ _ (by rfl)) (by rfl) (cy := mi_c142) rfl rfl (ke142_116 g1I g1R x1 x2 x3 (KU1.2.1.2.2.2) (KU1.2.1.2.2.1)) (Nat.le_of_ble_eq_true rfl) ?_
  intro u2 i2 a2 q2 r2 g2 P2
  have K2 := kAll_chg g2 (by decide +kernel) P2.2.2 P2.1 KU1
  have Rn0 := kTB_fr g2 (by decide +kernel) (kTB_fr g1 (by decide +kernel) R0)
  obtain ⟨Rn1, ev⟩ := st_mend K.1 R1 g1 P1 g2 P2
  refine mi_l_stepsK cx mi_sL3 2 _ (1494, [(3, .int v), (2, .ref 116), (1, .ref 0), (0, .ref mi_RO)], [], (149, 5163), ks i2 a2 q2 r2) (by rfl) ?_
  exact k _ _ _ _ ⟨K2, Rn0, Rn1⟩
set_option maxRecDepth 100000 in
set_option maxHeartbeats 4000000 in
theorem ml_of (cx : mi_CxL p s m c b ra cT D xl) {v : Int32} {i : Nat → Int32} {a : Nat → List Int32} {q : Nat → List Int64} {r : Nat → Nat} {x1 : Int32} {x2 : Int32} (K : kAl i a q r) (k : ∀ i a q r, kAl i a q r → mi_LW p l e s m below meth c b ra cT D (1494, [(3, .int v), (2, .ref 116), (1, .ref 0), (0, .ref mi_RO)], [], (149, 5163), ks i a q r)) (A1 : kArg xl (v + 1) x1) (A2 : kArg xl (v + 2) x2) : mi_LW p l e s m below meth c b ra cT D (319, [(3, .int v), (2, .ref 116), (1, .ref 0), (0, .ref mi_RO)], [], (149, 5163), ks i a q r) := by
  obtain ⟨K, R0, R1⟩ := K
  refine mi_l_stepsK cx mi_sL4 5 _ (324, [(3, .int v), (2, .ref 116), (1, .ref 0), (0, .ref mi_RO)], [.int (v + 1), .ref mi_RO, .ref 0], (149, 5163), ks i a q r) (by rfl) ?_
  refine mi_l_iald cx (ax := (0, 0, 0, 0, 0)) (mi_sL4 _ _ (by rfl)) A1 ?_
  refine mi_l_stepsK cx mi_sL4 4 _ (329, [(3, .int v), (2, .ref 116), (1, .ref 0), (0, .ref mi_RO)], [.int (v + 2), .ref mi_RO, .int x1, .ref 0], (149, 5163), ks i a q r) (by rfl) ?_
  refine mi_l_iald cx (ax := (0, 0, 0, 0, 0)) (mi_sL4 _ _ (by rfl)) A2 ?_
  refine mi_l_callPI cx (pc := 330) (ls := [(3, .int v), (2, .ref 116), (1, .ref 0), (0, .ref mi_RO)]) (st := [.int x2, .int x1, .ref 0]) (h := ks i a q r) (i := (.invokevirtual 27, 3, 84, 0, 9, 0, 171)) (mi_sL4 _ _ (by rfl)) (by rfl) (cy := mi_c84) rfl rfl (ke84_0 K.1.1 K.1.2 x1 x2) (Nat.le_of_ble_eq_true rfl) ?_
  intro u1 P1
  have g1I := K.1.1
  have g1R := K.1.2
  have KU1 := K
  refine mi_l_stepsK cx mi_sL4 6 _ (339, [(3, .int v), (2, .ref 116), (1, .ref 0), (0, .ref mi_RO)], [.int (v + 1), .ref mi_RO, .ref 116], (149, 5163), ks i a q r) (by rfl) ?_
  refine mi_l_iald cx (ax := (0, 0, 0, 0, 0)) (mi_sL4 _ _ (by rfl)) A1 ?_
  refine mi_l_stepsK cx mi_sL4 4 _ (344, [(3, .int v), (2, .ref 116), (1, .ref 0), (0, .ref mi_RO)], [.int (v + 2), .ref mi_RO, .int x1, .ref 116], (149, 5163), ks i a q r) (by rfl) ?_
  refine mi_l_iald cx (ax := (0, 0, 0, 0, 0)) (mi_sL4 _ _ (by rfl)) A2 ?_
  refine mi_l_callPI cx (pc := 345) (ls := [(3, .int v), (2, .ref 116), (1, .ref 0), (0, .ref mi_RO)]) (st := [.int x2, .int x1, .ref 116]) (h := ks i a q r) (i := (.invokevirtual 30, 3, 143, 0, 9, 0, 391)) (mi_sL4 _ _ (by rfl)) (by rfl) (cy := mi_c143) rfl rfl (ke143_116 g1I g1R x1 x2) (Nat.le_of_ble_eq_true rfl) ?_
  intro u2 P2
  refine mi_l_stepsK cx mi_sL4 2 _ (1494, [(3, .int v), (2, .ref 116), (1, .ref 0), (0, .ref mi_RO)], [], (149, 5163), ks i a q r) (by rfl) ?_
  exact k _ _ _ _ ⟨K, R0, R1⟩
set_option maxRecDepth 100000 in
set_option maxHeartbeats 4000000 in
theorem ml_feed (cx : mi_CxL p s m c b ra cT D xl) {v : Int32} {i : Nat → Int32} {a : Nat → List Int32} {q : Nat → List Int64} {r : Nat → Nat} {x1 : Int32} (K : kAl i a q r) (k : ∀ i a q r, kAl i a q r → mi_LW p l e s m below meth c b ra cT D (1494, [(3, .int v), (2, .ref 116), (1, .ref 0), (0, .ref mi_RO)], [], (149, 5163), ks i a q r)) (A1 : kArg xl (v + 1) x1) : mi_LW p l e s m below meth c b ra cT D (352, [(3, .int v), (2, .ref 116), (1, .ref 0), (0, .ref mi_RO)], [], (149, 5163), ks i a q r) := by
  obtain ⟨K, R0, R1⟩ := K
  refine mi_l_stepsK cx mi_sL5 5 _ (357, [(3, .int v), (2, .ref 116), (1, .ref 0), (0, .ref mi_RO)], [.int (v + 1), .ref mi_RO, .ref 0], (149, 5163), ks i a q r) (by rfl) ?_
  refine mi_l_iald cx (ax := (0, 0, 0, 0, 0)) (mi_sL5 _ _ (by rfl)) A1 ?_
  refine mi_l_callI cx (pc := 358) (ls := [(3, .int v), (2, .ref 116), (1, .ref 0), (0, .ref mi_RO)]) (st := [.int x1, .ref 0]) (h := ks i a q r) (i := (.invokevirtual 31, 3, 85, 0, 9, 0, 172)) (mi_sL5 _ _ (by rfl)) (by rfl) (cy := mi_c85) rfl rfl (ke85_0 K.1.1 K.1.2 x1) (Nat.le_of_ble_eq_true rfl) ?_
  intro u1 i1 a1 q1 r1 g1 P1
  have g1I := g1.I
  have g1R := g1.R
  have KU1 := kAll_fr g1 (by decide +kernel) K
  refine mi_l_stepsK cx mi_sL5 6 _ (367, [(3, .int v), (2, .ref 116), (1, .ref 0), (0, .ref mi_RO)], [.int (v + 1), .ref mi_RO, .ref 116], (149, 5163), ks i1 a1 q1 r1) (by rfl) ?_
  refine mi_l_iald cx (ax := (0, 0, 0, 0, 0)) (mi_sL5 _ _ (by rfl)) A1 ?_
  refine mi_l_callI cx (pc := 368) (ls := [(3, .int v), (2, .ref 116), (1, .ref 0), (0, .ref mi_RO)]) (st := [.int x1, .ref 116]) (h := ks i1 a1 q1 r1) (i := (.invokevirtual 35, 3, 146, 0, 9, 0, 394)) (mi_sL5 _ _ (by rfl)) (by rfl) (cy := mi_c146) rfl rfl (ke146_116 g1I g1R x1) (Nat.le_of_ble_eq_true rfl) ?_
  intro u2 i2 a2 q2 r2 g2 P2
  have K2 := kAll_fr g2 (by decide +kernel) KU1
  obtain ⟨Rn0, ev⟩ := st_feed2 R0 g1 P1 g2 P2
  have Rn1 := kMar_fr g2 (by decide +kernel) (g2.fa 118 rfl) (g2.fa 117 rfl) (g2.fi 7426 rfl) g1.R (kMar_fr g1 (by decide +kernel) (g1.fa 118 rfl) (g1.fa 117 rfl) (g1.fi 7426 rfl) K.1.2 R1)
  refine mi_l_stepsK cx mi_sL5 2 _ (1494, [(3, .int v), (2, .ref 116), (1, .ref 0), (0, .ref mi_RO)], [], (149, 5163), ks i2 a2 q2 r2) (by rfl) ?_
  exact k _ _ _ _ ⟨K2, Rn0, Rn1⟩
set_option maxRecDepth 100000 in
set_option maxHeartbeats 4000000 in
theorem ml_law (cx : mi_CxL p s m c b ra cT D xl) {v : Int32} {i : Nat → Int32} {a : Nat → List Int32} {q : Nat → List Int64} {r : Nat → Nat}  (K : kAl i a q r) (k : ∀ i a q r, kAl i a q r → mi_LW p l e s m below meth c b ra cT D (1494, [(3, .int v), (2, .ref 116), (1, .ref 0), (0, .ref mi_RO)], [], (149, 5163), ks i a q r))  : mi_LW p l e s m below meth c b ra cT D (375, [(3, .int v), (2, .ref 116), (1, .ref 0), (0, .ref mi_RO)], [], (149, 5163), ks i a q r) := by
  obtain ⟨K, R0, R1⟩ := K
  refine mi_l_stepsK cx mi_sL6 1 _ (376, [(3, .int v), (2, .ref 116), (1, .ref 0), (0, .ref mi_RO)], [.ref 0], (149, 5163), ks i a q r) (by rfl) ?_
  refine mi_l_callI cx (pc := 376) (ls := [(3, .int v), (2, .ref 116), (1, .ref 0), (0, .ref mi_RO)]) (st := [.ref 0]) (h := ks i a q r) (i := (.invokevirtual 36, 3, 86, 0, 9, 0, 174)) (mi_sL6 _ _ (by rfl)) (by rfl) (cy := mi_c86) rfl rfl (kz86_0 K.1.1 K.1.2 (R0.2)) (Nat.le_of_ble_eq_true rfl) ?_
  intro u1 i1 a1 q1 r1 g1 P1
  have g1I := g1.I
  have g1R := g1.R
  have KU1 := kAll_fr g1 (by decide +kernel) K
  refine mi_l_stepsK cx mi_sL6 2 _ (381, [(3, .int v), (2, .ref 116), (1, .ref 0), (0, .ref mi_RO)], [.ref 116], (149, 5163), ks i1 a1 q1 r1) (by rfl) ?_
  refine mi_l_callI cx (pc := 381) (ls := [(3, .int v), (2, .ref 116), (1, .ref 0), (0, .ref mi_RO)]) (st := [.ref 116]) (h := ks i1 a1 q1 r1) (i := (.invokevirtual 40, 3, 159, 0, 9, 0, 395)) (mi_sL6 _ _ (by rfl)) (by rfl) (cy := mi_c159) rfl rfl (kz159_116 g1I g1R (KU1.2.1.2.1) (kBy_to R0 g1)) (Nat.le_of_ble_eq_true rfl) ?_
  intro u2 i2 a2 q2 r2 g2 P2
  have K2 := kAll_law g2 (by decide +kernel) P2.2 KU1
  obtain ⟨⟨Rn0, Rn1⟩, ev⟩ := st_lawm K.1 R0 R1 g1 P1 g2 P2.1
  refine mi_l_stepsK cx mi_sL6 2 _ (1494, [(3, .int v), (2, .ref 116), (1, .ref 0), (0, .ref mi_RO)], [], (149, 5163), ks i2 a2 q2 r2) (by rfl) ?_
  exact k _ _ _ _ ⟨K2, Rn0, Rn1⟩
set_option maxRecDepth 100000 in
set_option maxHeartbeats 4000000 in
theorem ml_book (cx : mi_CxL p s m c b ra cT D xl) {v : Int32} {i : Nat → Int32} {a : Nat → List Int32} {q : Nat → List Int64} {r : Nat → Nat} {x1 : Int32} {x2 : Int32} (K : kAl i a q r) (k : ∀ i a q r, kAl i a q r → mi_LW p l e s m below meth c b ra cT D (1494, [(3, .int v), (2, .ref 116), (1, .ref 0), (0, .ref mi_RO)], [], (149, 5163), ks i a q r)) (A1 : kArg xl (v + 1) x1) (A2 : kArg xl (v + 2) x2) : mi_LW p l e s m below meth c b ra cT D (388, [(3, .int v), (2, .ref 116), (1, .ref 0), (0, .ref mi_RO)], [], (149, 5163), ks i a q r) := by
  obtain ⟨K, R0, R1⟩ := K
  refine mi_l_stepsK cx mi_sL7 5 _ (393, [(3, .int v), (2, .ref 116), (1, .ref 0), (0, .ref mi_RO)], [.int (v + 1), .ref mi_RO, .ref 0], (149, 5163), ks i a q r) (by rfl) ?_
  refine mi_l_iald cx (ax := (0, 0, 0, 0, 0)) (mi_sL7 _ _ (by rfl)) A1 ?_
  refine mi_l_stepsK cx mi_sL7 4 _ (398, [(3, .int v), (2, .ref 116), (1, .ref 0), (0, .ref mi_RO)], [.int (v + 2), .ref mi_RO, .int x1, .ref 0], (149, 5163), ks i a q r) (by rfl) ?_
  refine mi_l_iald cx (ax := (0, 0, 0, 0, 0)) (mi_sL7 _ _ (by rfl)) A2 ?_
  refine mi_l_callPI cx (pc := 399) (ls := [(3, .int v), (2, .ref 116), (1, .ref 0), (0, .ref mi_RO)]) (st := [.int x2, .int x1, .ref 0]) (h := ks i a q r) (i := (.invokevirtual 41, 3, 87, 0, 9, 0, 206)) (mi_sL7 _ _ (by rfl)) (by rfl) (cy := mi_c87) rfl rfl (ke87_0 K.1.1 K.1.2 x1 x2) (Nat.le_of_ble_eq_true rfl) ?_
  intro u1 P1
  have g1I := K.1.1
  have g1R := K.1.2
  have KU1 := K
  refine mi_l_stepsK cx mi_sL7 6 _ (408, [(3, .int v), (2, .ref 116), (1, .ref 0), (0, .ref mi_RO)], [.int (v + 1), .ref mi_RO, .ref 116], (149, 5163), ks i a q r) (by rfl) ?_
  refine mi_l_iald cx (ax := (0, 0, 0, 0, 0)) (mi_sL7 _ _ (by rfl)) A1 ?_
  refine mi_l_stepsK cx mi_sL7 4 _ (413, [(3, .int v), (2, .ref 116), (1, .ref 0), (0, .ref mi_RO)], [.int (v + 2), .ref mi_RO, .int x1, .ref 116], (149, 5163), ks i a q r) (by rfl) ?_
  refine mi_l_iald cx (ax := (0, 0, 0, 0, 0)) (mi_sL7 _ _ (by rfl)) A2 ?_
  refine mi_l_callPI cx (pc := 414) (ls := [(3, .int v), (2, .ref 116), (1, .ref 0), (0, .ref mi_RO)]) (st := [.int x2, .int x1, .ref 116]) (h := ks i a q r) (i := (.invokevirtual 44, 3, 164, 0, 9, 0, 408)) (mi_sL7 _ _ (by rfl)) (by rfl) (cy := mi_c164) rfl rfl (ke164_116 g1I g1R x1 x2) (Nat.le_of_ble_eq_true rfl) ?_
  intro u2 P2
  refine mi_l_stepsK cx mi_sL7 2 _ (1494, [(3, .int v), (2, .ref 116), (1, .ref 0), (0, .ref mi_RO)], [], (149, 5163), ks i a q r) (by rfl) ?_
  exact k _ _ _ _ ⟨K, R0, R1⟩
set_option maxRecDepth 100000 in
set_option maxHeartbeats 4000000 in
theorem ml_market (cx : mi_CxL p s m c b ra cT D xl) {v : Int32} {i : Nat → Int32} {a : Nat → List Int32} {q : Nat → List Int64} {r : Nat → Nat} {x1 : Int32} {x2 : Int32} {x3 : Int32} (K : kAl i a q r) (k : ∀ i a q r, kAl i a q r → mi_LW p l e s m below meth c b ra cT D (1494, [(3, .int v), (2, .ref 116), (1, .ref 0), (0, .ref mi_RO)], [], (149, 5163), ks i a q r)) (A1 : kArg xl (v + 1) x1) (A2 : kArg xl (v + 2) x2) (A3 : kArg xl (v + 3) x3) : mi_LW p l e s m below meth c b ra cT D (421, [(3, .int v), (2, .ref 116), (1, .ref 0), (0, .ref mi_RO)], [], (149, 5163), ks i a q r) := by
  obtain ⟨K, R0, R1⟩ := K
  refine mi_l_stepsK cx mi_sL8 5 _ (426, [(3, .int v), (2, .ref 116), (1, .ref 0), (0, .ref mi_RO)], [.int (v + 1), .ref mi_RO, .ref 0], (149, 5163), ks i a q r) (by rfl) ?_
  refine mi_l_iald cx (ax := (0, 0, 0, 0, 0)) (mi_sL8 _ _ (by rfl)) A1 ?_
  refine mi_l_stepsK cx mi_sL8 4 _ (431, [(3, .int v), (2, .ref 116), (1, .ref 0), (0, .ref mi_RO)], [.int (v + 2), .ref mi_RO, .int x1, .ref 0], (149, 5163), ks i a q r) (by rfl) ?_
  refine mi_l_iald cx (ax := (0, 0, 0, 0, 0)) (mi_sL8 _ _ (by rfl)) A2 ?_
  refine mi_l_stepsK cx mi_sL8 4 _ (436, [(3, .int v), (2, .ref 116), (1, .ref 0), (0, .ref mi_RO)], [.int (v + 3), .ref mi_RO, .int x2, .int x1, .ref 0], (149, 5163), ks i a q r) (by rfl) ?_
  refine mi_l_iald cx (ax := (0, 0, 0, 0, 0)) (mi_sL8 _ _ (by rfl)) A3 ?_
  refine mi_l_callI cx (pc := 437) (ls := [(3, .int v), (2, .ref 116), (1, .ref 0), (0, .ref mi_RO)]) (st := [.int x3, .int x2, .int x1, .ref 0]) (h := ks i a q r) (i := (.invokevirtual 45, 3, 88, 0, 9, 0, 207)) (mi_sL8 _ _ (by rfl)) (by rfl) (cy := mi_c88) rfl rfl (kc88_0 K.1.1 K.1.2 x1 x2 x3) (Nat.le_of_ble_eq_true rfl) ?_
  intro u1 i1 a1 q1 r1 g1 P1
  have g1I := g1.I
  have g1R := g1.R
  have KU1 := kAll_fr g1 (by decide +kernel) K
  refine mi_l_stepsK cx mi_sL8 6 _ (446, [(3, .int v), (2, .ref 116), (1, .ref 0), (0, .ref mi_RO)], [.int (v + 1), .ref mi_RO, .ref 116], (149, 5163), ks i1 a1 q1 r1) (by rfl) ?_
  refine mi_l_iald cx (ax := (0, 0, 0, 0, 0)) (mi_sL8 _ _ (by rfl)) A1 ?_
  refine mi_l_stepsK cx mi_sL8 4 _ (451, [(3, .int v), (2, .ref 116), (1, .ref 0), (0, .ref mi_RO)], [.int (v + 2), .ref mi_RO, .int x1, .ref 116], (149, 5163), ks i1 a1 q1 r1) (by rfl) ?_
  refine mi_l_iald cx (ax := (0, 0, 0, 0, 0)) (mi_sL8 _ _ (by rfl)) A2 ?_
  refine mi_l_stepsK cx mi_sL8 4 _ (456, [(3, .int v), (2, .ref 116), (1, .ref 0), (0, .ref mi_RO)], [.int (v + 3), .ref mi_RO, .int x2, .int x1, .ref 116], (149, 5163), ks i1 a1 q1 r1) (by rfl) ?_
  refine mi_l_iald cx (ax := (0, 0, 0, 0, 0)) (mi_sL8 _ _ (by rfl)) A3 ?_
  refine mi_l_callI cx (pc := 457) (ls := [(3, .int v), (2, .ref 116), (1, .ref 0), (0, .ref mi_RO)]) (st := [.int x3, .int x2, .int x1, .ref 116]) (h := ks i1 a1 q1 r1) (i := (.invokevirtual 48, 3, 175, 0, 9, 0, 409)) (mi_sL8 _ _ (by rfl)) (by rfl) (cy := mi_c175) rfl rfl (kz175_116 g1I g1R x1 x2 x3 (KU1.2.1.2.1)) (Nat.le_of_ble_eq_true rfl) ?_
  intro u2 i2 a2 q2 r2 g2 P2
  have K2 := kAll_fr g2 (by decide +kernel) KU1
  have Rn0 := kTB_fr g2 (by decide +kernel) (kTB_fr g1 (by decide +kernel) R0)
  have Rn1 := kMar_fr g2 (by decide +kernel) P2.2.1 (g2.fa 117 rfl) (g2.fi 7426 rfl) g1.R (kMar_fr g1 (by decide +kernel) (g1.fa 118 rfl) (g1.fa 117 rfl) (g1.fi 7426 rfl) K.1.2 R1)
  refine mi_l_stepsK cx mi_sL8 2 _ (1494, [(3, .int v), (2, .ref 116), (1, .ref 0), (0, .ref mi_RO)], [], (149, 5163), ks i2 a2 q2 r2) (by rfl) ?_
  exact k _ _ _ _ ⟨K2, Rn0, Rn1⟩
set_option maxRecDepth 100000 in
set_option maxHeartbeats 4000000 in
theorem ml_coming (cx : mi_CxL p s m c b ra cT D xl) {v : Int32} {i : Nat → Int32} {a : Nat → List Int32} {q : Nat → List Int64} {r : Nat → Nat} {x1 : Int32} {x2 : Int32} {x3 : Int32} (K : kAl i a q r) (k : ∀ i a q r, kAl i a q r → mi_LW p l e s m below meth c b ra cT D (1494, [(3, .int v), (2, .ref 116), (1, .ref 0), (0, .ref mi_RO)], [], (149, 5163), ks i a q r)) (A1 : kArg xl (v + 1) x1) (A2 : kArg xl (v + 2) x2) (A3 : kArg xl (v + 3) x3) : mi_LW p l e s m below meth c b ra cT D (464, [(3, .int v), (2, .ref 116), (1, .ref 0), (0, .ref mi_RO)], [], (149, 5163), ks i a q r) := by
  obtain ⟨K, R0, R1⟩ := K
  refine mi_l_stepsK cx mi_sL9 5 _ (469, [(3, .int v), (2, .ref 116), (1, .ref 0), (0, .ref mi_RO)], [.int (v + 1), .ref mi_RO, .ref 0], (149, 5163), ks i a q r) (by rfl) ?_
  refine mi_l_iald cx (ax := (0, 0, 0, 0, 0)) (mi_sL9 _ _ (by rfl)) A1 ?_
  refine mi_l_stepsK cx mi_sL9 4 _ (474, [(3, .int v), (2, .ref 116), (1, .ref 0), (0, .ref mi_RO)], [.int (v + 2), .ref mi_RO, .int x1, .ref 0], (149, 5163), ks i a q r) (by rfl) ?_
  refine mi_l_iald cx (ax := (0, 0, 0, 0, 0)) (mi_sL9 _ _ (by rfl)) A2 ?_
  refine mi_l_stepsK cx mi_sL9 4 _ (479, [(3, .int v), (2, .ref 116), (1, .ref 0), (0, .ref mi_RO)], [.int (v + 3), .ref mi_RO, .int x2, .int x1, .ref 0], (149, 5163), ks i a q r) (by rfl) ?_
  refine mi_l_iald cx (ax := (0, 0, 0, 0, 0)) (mi_sL9 _ _ (by rfl)) A3 ?_
  refine mi_l_callI cx (pc := 480) (ls := [(3, .int v), (2, .ref 116), (1, .ref 0), (0, .ref mi_RO)]) (st := [.int x3, .int x2, .int x1, .ref 0]) (h := ks i a q r) (i := (.invokevirtual 49, 3, 89, 0, 9, 0, 229)) (mi_sL9 _ _ (by rfl)) (by rfl) (cy := mi_c89) rfl rfl (kc89_0 K.1.1 K.1.2 x1 x2 x3) (Nat.le_of_ble_eq_true rfl) ?_
  intro u1 i1 a1 q1 r1 g1 P1
  have g1I := g1.I
  have g1R := g1.R
  have KU1 := kAll_fr g1 (by decide +kernel) K
  refine mi_l_stepsK cx mi_sL9 6 _ (489, [(3, .int v), (2, .ref 116), (1, .ref 0), (0, .ref mi_RO)], [.int (v + 1), .ref mi_RO, .ref 116], (149, 5163), ks i1 a1 q1 r1) (by rfl) ?_
  refine mi_l_iald cx (ax := (0, 0, 0, 0, 0)) (mi_sL9 _ _ (by rfl)) A1 ?_
  refine mi_l_stepsK cx mi_sL9 4 _ (494, [(3, .int v), (2, .ref 116), (1, .ref 0), (0, .ref mi_RO)], [.int (v + 2), .ref mi_RO, .int x1, .ref 116], (149, 5163), ks i1 a1 q1 r1) (by rfl) ?_
  refine mi_l_iald cx (ax := (0, 0, 0, 0, 0)) (mi_sL9 _ _ (by rfl)) A2 ?_
  refine mi_l_stepsK cx mi_sL9 4 _ (499, [(3, .int v), (2, .ref 116), (1, .ref 0), (0, .ref mi_RO)], [.int (v + 3), .ref mi_RO, .int x2, .int x1, .ref 116], (149, 5163), ks i1 a1 q1 r1) (by rfl) ?_
  refine mi_l_iald cx (ax := (0, 0, 0, 0, 0)) (mi_sL9 _ _ (by rfl)) A3 ?_
  refine mi_l_callI cx (pc := 500) (ls := [(3, .int v), (2, .ref 116), (1, .ref 0), (0, .ref mi_RO)]) (st := [.int x3, .int x2, .int x1, .ref 116]) (h := ks i1 a1 q1 r1) (i := (.invokevirtual 52, 3, 176, 0, 9, 0, 424)) (mi_sL9 _ _ (by rfl)) (by rfl) (cy := mi_c176) rfl rfl (kz176_116 g1I g1R x1 x2 x3 (KU1.2.1.2.1)) (Nat.le_of_ble_eq_true rfl) ?_
  intro u2 i2 a2 q2 r2 g2 P2
  have K2 := kAll_fr g2 (by decide +kernel) KU1
  have Rn0 := kTB_fr g2 (by decide +kernel) (kTB_fr g1 (by decide +kernel) R0)
  have Rn1 := kMar_fr g2 (by decide +kernel) P2.2.1 (g2.fa 117 rfl) (g2.fi 7426 rfl) g1.R (kMar_fr g1 (by decide +kernel) (g1.fa 118 rfl) (g1.fa 117 rfl) (g1.fi 7426 rfl) K.1.2 R1)
  refine mi_l_stepsK cx mi_sL9 2 _ (1494, [(3, .int v), (2, .ref 116), (1, .ref 0), (0, .ref mi_RO)], [], (149, 5163), ks i2 a2 q2 r2) (by rfl) ?_
  exact k _ _ _ _ ⟨K2, Rn0, Rn1⟩
set_option maxRecDepth 100000 in
set_option maxHeartbeats 4000000 in
theorem ml_later (cx : mi_CxL p s m c b ra cT D xl) {v : Int32} {i : Nat → Int32} {a : Nat → List Int32} {q : Nat → List Int64} {r : Nat → Nat} {x1 : Int32} {x2 : Int32} {x3 : Int32} (K : kAl i a q r) (k : ∀ i a q r, kAl i a q r → mi_LW p l e s m below meth c b ra cT D (1494, [(3, .int v), (2, .ref 116), (1, .ref 0), (0, .ref mi_RO)], [], (149, 5163), ks i a q r)) (A1 : kArg xl (v + 1) x1) (A2 : kArg xl (v + 2) x2) (A3 : kArg xl (v + 3) x3) : mi_LW p l e s m below meth c b ra cT D (507, [(3, .int v), (2, .ref 116), (1, .ref 0), (0, .ref mi_RO)], [], (149, 5163), ks i a q r) := by
  obtain ⟨K, R0, R1⟩ := K
  refine mi_l_stepsK cx mi_sL10 5 _ (512, [(3, .int v), (2, .ref 116), (1, .ref 0), (0, .ref mi_RO)], [.int (v + 1), .ref mi_RO, .ref 0], (149, 5163), ks i a q r) (by rfl) ?_
  refine mi_l_iald cx (ax := (0, 0, 0, 0, 0)) (mi_sL10 _ _ (by rfl)) A1 ?_
  refine mi_l_stepsK cx mi_sL10 4 _ (517, [(3, .int v), (2, .ref 116), (1, .ref 0), (0, .ref mi_RO)], [.int (v + 2), .ref mi_RO, .int x1, .ref 0], (149, 5163), ks i a q r) (by rfl) ?_
  refine mi_l_iald cx (ax := (0, 0, 0, 0, 0)) (mi_sL10 _ _ (by rfl)) A2 ?_
  refine mi_l_stepsK cx mi_sL10 4 _ (522, [(3, .int v), (2, .ref 116), (1, .ref 0), (0, .ref mi_RO)], [.int (v + 3), .ref mi_RO, .int x2, .int x1, .ref 0], (149, 5163), ks i a q r) (by rfl) ?_
  refine mi_l_iald cx (ax := (0, 0, 0, 0, 0)) (mi_sL10 _ _ (by rfl)) A3 ?_
  refine mi_l_callI cx (pc := 523) (ls := [(3, .int v), (2, .ref 116), (1, .ref 0), (0, .ref mi_RO)]) (st := [.int x3, .int x2, .int x1, .ref 0]) (h := ks i a q r) (i := (.invokevirtual 53, 3, 90, 0, 9, 0, 230)) (mi_sL10 _ _ (by rfl)) (by rfl) (cy := mi_c90) rfl rfl (kc90_0 K.1.1 K.1.2 x1 x2 x3) (Nat.le_of_ble_eq_true rfl) ?_
  intro u1 i1 a1 q1 r1 g1 P1
  have g1I := g1.I
  have g1R := g1.R
  have KU1 := kAll_fr g1 (by decide +kernel) K
  refine mi_l_stepsK cx mi_sL10 6 _ (532, [(3, .int v), (2, .ref 116), (1, .ref 0), (0, .ref mi_RO)], [.int (v + 1), .ref mi_RO, .ref 116], (149, 5163), ks i1 a1 q1 r1) (by rfl) ?_
  refine mi_l_iald cx (ax := (0, 0, 0, 0, 0)) (mi_sL10 _ _ (by rfl)) A1 ?_
  refine mi_l_stepsK cx mi_sL10 4 _ (537, [(3, .int v), (2, .ref 116), (1, .ref 0), (0, .ref mi_RO)], [.int (v + 2), .ref mi_RO, .int x1, .ref 116], (149, 5163), ks i1 a1 q1 r1) (by rfl) ?_
  refine mi_l_iald cx (ax := (0, 0, 0, 0, 0)) (mi_sL10 _ _ (by rfl)) A2 ?_
  refine mi_l_stepsK cx mi_sL10 4 _ (542, [(3, .int v), (2, .ref 116), (1, .ref 0), (0, .ref mi_RO)], [.int (v + 3), .ref mi_RO, .int x2, .int x1, .ref 116], (149, 5163), ks i1 a1 q1 r1) (by rfl) ?_
  refine mi_l_iald cx (ax := (0, 0, 0, 0, 0)) (mi_sL10 _ _ (by rfl)) A3 ?_
  refine mi_l_callI cx (pc := 543) (ls := [(3, .int v), (2, .ref 116), (1, .ref 0), (0, .ref mi_RO)]) (st := [.int x3, .int x2, .int x1, .ref 116]) (h := ks i1 a1 q1 r1) (i := (.invokevirtual 56, 3, 177, 0, 9, 0, 425)) (mi_sL10 _ _ (by rfl)) (by rfl) (cy := mi_c177) rfl rfl (kz177_116 g1I g1R x1 x2 x3 (KU1.2.1.2.1)) (Nat.le_of_ble_eq_true rfl) ?_
  intro u2 i2 a2 q2 r2 g2 P2
  have K2 := kAll_fr g2 (by decide +kernel) KU1
  have Rn0 := kTB_fr g2 (by decide +kernel) (kTB_fr g1 (by decide +kernel) R0)
  have Rn1 := kMar_fr g2 (by decide +kernel) P2.2.1 (g2.fa 117 rfl) (g2.fi 7426 rfl) g1.R (kMar_fr g1 (by decide +kernel) (g1.fa 118 rfl) (g1.fa 117 rfl) (g1.fi 7426 rfl) K.1.2 R1)
  refine mi_l_stepsK cx mi_sL10 2 _ (1494, [(3, .int v), (2, .ref 116), (1, .ref 0), (0, .ref mi_RO)], [], (149, 5163), ks i2 a2 q2 r2) (by rfl) ?_
  exact k _ _ _ _ ⟨K2, Rn0, Rn1⟩
set_option maxRecDepth 100000 in
set_option maxHeartbeats 4000000 in
theorem ml_onceMore (cx : mi_CxL p s m c b ra cT D xl) {v : Int32} {i : Nat → Int32} {a : Nat → List Int32} {q : Nat → List Int64} {r : Nat → Nat} {x1 : Int32} {x2 : Int32} {x3 : Int32} (K : kAl i a q r) (k : ∀ i a q r, kAl i a q r → mi_LW p l e s m below meth c b ra cT D (1494, [(3, .int v), (2, .ref 116), (1, .ref 0), (0, .ref mi_RO)], [], (149, 5163), ks i a q r)) (A1 : kArg xl (v + 1) x1) (A2 : kArg xl (v + 2) x2) (A3 : kArg xl (v + 3) x3) : mi_LW p l e s m below meth c b ra cT D (550, [(3, .int v), (2, .ref 116), (1, .ref 0), (0, .ref mi_RO)], [], (149, 5163), ks i a q r) := by
  obtain ⟨K, R0, R1⟩ := K
  refine mi_l_stepsK cx mi_sL11 5 _ (555, [(3, .int v), (2, .ref 116), (1, .ref 0), (0, .ref mi_RO)], [.int (v + 1), .ref mi_RO, .ref 0], (149, 5163), ks i a q r) (by rfl) ?_
  refine mi_l_iald cx (ax := (0, 0, 0, 0, 0)) (mi_sL11 _ _ (by rfl)) A1 ?_
  refine mi_l_stepsK cx mi_sL11 4 _ (560, [(3, .int v), (2, .ref 116), (1, .ref 0), (0, .ref mi_RO)], [.int (v + 2), .ref mi_RO, .int x1, .ref 0], (149, 5163), ks i a q r) (by rfl) ?_
  refine mi_l_iald cx (ax := (0, 0, 0, 0, 0)) (mi_sL11 _ _ (by rfl)) A2 ?_
  refine mi_l_stepsK cx mi_sL11 4 _ (565, [(3, .int v), (2, .ref 116), (1, .ref 0), (0, .ref mi_RO)], [.int (v + 3), .ref mi_RO, .int x2, .int x1, .ref 0], (149, 5163), ks i a q r) (by rfl) ?_
  refine mi_l_iald cx (ax := (0, 0, 0, 0, 0)) (mi_sL11 _ _ (by rfl)) A3 ?_
  refine mi_l_callI cx (pc := 566) (ls := [(3, .int v), (2, .ref 116), (1, .ref 0), (0, .ref mi_RO)]) (st := [.int x3, .int x2, .int x1, .ref 0]) (h := ks i a q r) (i := (.invokevirtual 57, 3, 91, 0, 9, 0, 235)) (mi_sL11 _ _ (by rfl)) (by rfl) (cy := mi_c91) rfl rfl (kc91_0 K.1.1 K.1.2 x1 x2 x3) (Nat.le_of_ble_eq_true rfl) ?_
  intro u1 i1 a1 q1 r1 g1 P1
  have g1I := g1.I
  have g1R := g1.R
  have KU1 := kAll_fr g1 (by decide +kernel) K
  refine mi_l_stepsK cx mi_sL11 6 _ (575, [(3, .int v), (2, .ref 116), (1, .ref 0), (0, .ref mi_RO)], [.int (v + 1), .ref mi_RO, .ref 116], (149, 5163), ks i1 a1 q1 r1) (by rfl) ?_
  refine mi_l_iald cx (ax := (0, 0, 0, 0, 0)) (mi_sL11 _ _ (by rfl)) A1 ?_
  refine mi_l_stepsK cx mi_sL11 4 _ (580, [(3, .int v), (2, .ref 116), (1, .ref 0), (0, .ref mi_RO)], [.int (v + 2), .ref mi_RO, .int x1, .ref 116], (149, 5163), ks i1 a1 q1 r1) (by rfl) ?_
  refine mi_l_iald cx (ax := (0, 0, 0, 0, 0)) (mi_sL11 _ _ (by rfl)) A2 ?_
  refine mi_l_stepsK cx mi_sL11 4 _ (585, [(3, .int v), (2, .ref 116), (1, .ref 0), (0, .ref mi_RO)], [.int (v + 3), .ref mi_RO, .int x2, .int x1, .ref 116], (149, 5163), ks i1 a1 q1 r1) (by rfl) ?_
  refine mi_l_iald cx (ax := (0, 0, 0, 0, 0)) (mi_sL11 _ _ (by rfl)) A3 ?_
  refine mi_l_callI cx (pc := 586) (ls := [(3, .int v), (2, .ref 116), (1, .ref 0), (0, .ref mi_RO)]) (st := [.int x3, .int x2, .int x1, .ref 116]) (h := ks i1 a1 q1 r1) (i := (.invokevirtual 60, 3, 180, 0, 9, 0, 427)) (mi_sL11 _ _ (by rfl)) (by rfl) (cy := mi_c180) rfl rfl (kz180_116 g1I g1R x1 x2 x3 (KU1.2.1.2.1)) (Nat.le_of_ble_eq_true rfl) ?_
  intro u2 i2 a2 q2 r2 g2 P2
  have K2 := kAll_fr g2 (by decide +kernel) KU1
  have Rn0 := kTB_fr g2 (by decide +kernel) (kTB_fr g1 (by decide +kernel) R0)
  have Rn1 := kMar_fr g2 (by decide +kernel) P2.2.1 (g2.fa 117 rfl) (g2.fi 7426 rfl) g1.R (kMar_fr g1 (by decide +kernel) (g1.fa 118 rfl) (g1.fa 117 rfl) (g1.fi 7426 rfl) K.1.2 R1)
  refine mi_l_stepsK cx mi_sL11 2 _ (1494, [(3, .int v), (2, .ref 116), (1, .ref 0), (0, .ref mi_RO)], [], (149, 5163), ks i2 a2 q2 r2) (by rfl) ?_
  exact k _ _ _ _ ⟨K2, Rn0, Rn1⟩
set_option maxRecDepth 100000 in
set_option maxHeartbeats 4000000 in
theorem ml_hired (cx : mi_CxL p s m c b ra cT D xl) {v : Int32} {i : Nat → Int32} {a : Nat → List Int32} {q : Nat → List Int64} {r : Nat → Nat} {x1 : Int32} {x2 : Int32} {x3 : Int32} {x4 : Int32} (K : kAl i a q r) (k : ∀ i a q r, kAl i a q r → mi_LW p l e s m below meth c b ra cT D (1494, [(3, .int v), (2, .ref 116), (1, .ref 0), (0, .ref mi_RO)], [], (149, 5163), ks i a q r)) (A1 : kArg xl (v + 1) x1) (A2 : kArg xl (v + 2) x2) (A3 : kArg xl (v + 3) x3) (A4 : kArg xl (v + 4) x4) : mi_LW p l e s m below meth c b ra cT D (593, [(3, .int v), (2, .ref 116), (1, .ref 0), (0, .ref mi_RO)], [], (149, 5163), ks i a q r) := by
  obtain ⟨K, R0, R1⟩ := K
  refine mi_l_stepsK cx mi_sL12 5 _ (598, [(3, .int v), (2, .ref 116), (1, .ref 0), (0, .ref mi_RO)], [.int (v + 1), .ref mi_RO, .ref 0], (149, 5163), ks i a q r) (by rfl) ?_
  refine mi_l_iald cx (ax := (0, 0, 0, 0, 0)) (mi_sL12 _ _ (by rfl)) A1 ?_
  refine mi_l_stepsK cx mi_sL12 4 _ (603, [(3, .int v), (2, .ref 116), (1, .ref 0), (0, .ref mi_RO)], [.int (v + 2), .ref mi_RO, .int x1, .ref 0], (149, 5163), ks i a q r) (by rfl) ?_
  refine mi_l_iald cx (ax := (0, 0, 0, 0, 0)) (mi_sL12 _ _ (by rfl)) A2 ?_
  refine mi_l_stepsK cx mi_sL12 4 _ (608, [(3, .int v), (2, .ref 116), (1, .ref 0), (0, .ref mi_RO)], [.int (v + 3), .ref mi_RO, .int x2, .int x1, .ref 0], (149, 5163), ks i a q r) (by rfl) ?_
  refine mi_l_iald cx (ax := (0, 0, 0, 0, 0)) (mi_sL12 _ _ (by rfl)) A3 ?_
  refine mi_l_stepsK cx mi_sL12 4 _ (613, [(3, .int v), (2, .ref 116), (1, .ref 0), (0, .ref mi_RO)], [.int (v + 4), .ref mi_RO, .int x3, .int x2, .int x1, .ref 0], (149, 5163), ks i a q r) (by rfl) ?_
  refine mi_l_iald cx (ax := (0, 0, 0, 0, 0)) (mi_sL12 _ _ (by rfl)) A4 ?_
  refine mi_l_callI cx (pc := 614) (ls := [(3, .int v), (2, .ref 116), (1, .ref 0), (0, .ref mi_RO)]) (st := [.int x4, .int x3, .int x2, .int x1, .ref 0]) (h := ks i a q r) (i := (.invokevirtual 61, 3, 92, 0, 9, 0, 242)) (mi_sL12 _ _ (by rfl)) (by rfl) (cy := mi_c92) rfl rfl (kc92_0 K.1.1 K.1.2 x1 x2 x3 x4) (Nat.le_of_ble_eq_true rfl) ?_
  intro u1 i1 a1 q1 r1 g1 P1
  have g1I := g1.I
  have g1R := g1.R
  have KU1 := kAll_fr g1 (by decide +kernel) K
  refine mi_l_stepsK cx mi_sL12 6 _ (623, [(3, .int v), (2, .ref 116), (1, .ref 0), (0, .ref mi_RO)], [.int (v + 1), .ref mi_RO, .ref 116], (149, 5163), ks i1 a1 q1 r1) (by rfl) ?_
  refine mi_l_iald cx (ax := (0, 0, 0, 0, 0)) (mi_sL12 _ _ (by rfl)) A1 ?_
  refine mi_l_stepsK cx mi_sL12 4 _ (628, [(3, .int v), (2, .ref 116), (1, .ref 0), (0, .ref mi_RO)], [.int (v + 2), .ref mi_RO, .int x1, .ref 116], (149, 5163), ks i1 a1 q1 r1) (by rfl) ?_
  refine mi_l_iald cx (ax := (0, 0, 0, 0, 0)) (mi_sL12 _ _ (by rfl)) A2 ?_
  refine mi_l_stepsK cx mi_sL12 4 _ (633, [(3, .int v), (2, .ref 116), (1, .ref 0), (0, .ref mi_RO)], [.int (v + 3), .ref mi_RO, .int x2, .int x1, .ref 116], (149, 5163), ks i1 a1 q1 r1) (by rfl) ?_
  refine mi_l_iald cx (ax := (0, 0, 0, 0, 0)) (mi_sL12 _ _ (by rfl)) A3 ?_
  refine mi_l_stepsK cx mi_sL12 4 _ (638, [(3, .int v), (2, .ref 116), (1, .ref 0), (0, .ref mi_RO)], [.int (v + 4), .ref mi_RO, .int x3, .int x2, .int x1, .ref 116], (149, 5163), ks i1 a1 q1 r1) (by rfl) ?_
  refine mi_l_iald cx (ax := (0, 0, 0, 0, 0)) (mi_sL12 _ _ (by rfl)) A4 ?_
  refine mi_l_callI cx (pc := 639) (ls := [(3, .int v), (2, .ref 116), (1, .ref 0), (0, .ref mi_RO)]) (st := [.int x4, .int x3, .int x2, .int x1, .ref 116]) (h := ks i1 a1 q1 r1) (i := (.invokevirtual 65, 3, 181, 0, 9, 0, 431)) (mi_sL12 _ _ (by rfl)) (by rfl) (cy := mi_c181) rfl rfl (kz181_116 g1I g1R x1 x2 x3 x4 (KU1.2.1.2.1)) (Nat.le_of_ble_eq_true rfl) ?_
  intro u2 i2 a2 q2 r2 g2 P2
  have K2 := kAll_fr g2 (by decide +kernel) KU1
  have Rn0 := kTB_fr g2 (by decide +kernel) (kTB_fr g1 (by decide +kernel) R0)
  have Rn1 := kMar_fr g2 (by decide +kernel) P2.2.1 (g2.fa 117 rfl) (g2.fi 7426 rfl) g1.R (kMar_fr g1 (by decide +kernel) (g1.fa 118 rfl) (g1.fa 117 rfl) (g1.fi 7426 rfl) K.1.2 R1)
  refine mi_l_stepsK cx mi_sL12 2 _ (1494, [(3, .int v), (2, .ref 116), (1, .ref 0), (0, .ref mi_RO)], [], (149, 5163), ks i2 a2 q2 r2) (by rfl) ?_
  exact k _ _ _ _ ⟨K2, Rn0, Rn1⟩
set_option maxRecDepth 100000 in
set_option maxHeartbeats 4000000 in
theorem ml_latch (cx : mi_CxL p s m c b ra cT D xl) {v : Int32} {i : Nat → Int32} {a : Nat → List Int32} {q : Nat → List Int64} {r : Nat → Nat} {x1 : Int32} {x2 : Int32} {x3 : Int32} (K : kAl i a q r) (k : ∀ i a q r, kAl i a q r → mi_LW p l e s m below meth c b ra cT D (1494, [(3, .int v), (2, .ref 116), (1, .ref 0), (0, .ref mi_RO)], [], (149, 5163), ks i a q r)) (A1 : kArg xl (v + 1) x1) (A2 : kArg xl (v + 2) x2) (A3 : kArg xl (v + 3) x3) : mi_LW p l e s m below meth c b ra cT D (646, [(3, .int v), (2, .ref 116), (1, .ref 0), (0, .ref mi_RO)], [], (149, 5163), ks i a q r) := by
  obtain ⟨K, R0, R1⟩ := K
  refine mi_l_stepsK cx mi_sL13 5 _ (651, [(3, .int v), (2, .ref 116), (1, .ref 0), (0, .ref mi_RO)], [.int (v + 1), .ref mi_RO, .ref 0], (149, 5163), ks i a q r) (by rfl) ?_
  refine mi_l_iald cx (ax := (0, 0, 0, 0, 0)) (mi_sL13 _ _ (by rfl)) A1 ?_
  refine mi_l_stepsK cx mi_sL13 4 _ (656, [(3, .int v), (2, .ref 116), (1, .ref 0), (0, .ref mi_RO)], [.int (v + 2), .ref mi_RO, .int x1, .ref 0], (149, 5163), ks i a q r) (by rfl) ?_
  refine mi_l_iald cx (ax := (0, 0, 0, 0, 0)) (mi_sL13 _ _ (by rfl)) A2 ?_
  refine mi_l_stepsK cx mi_sL13 4 _ (661, [(3, .int v), (2, .ref 116), (1, .ref 0), (0, .ref mi_RO)], [.int (v + 3), .ref mi_RO, .int x2, .int x1, .ref 0], (149, 5163), ks i a q r) (by rfl) ?_
  refine mi_l_iald cx (ax := (0, 0, 0, 0, 0)) (mi_sL13 _ _ (by rfl)) A3 ?_
  refine mi_l_callI cx (pc := 662) (ls := [(3, .int v), (2, .ref 116), (1, .ref 0), (0, .ref mi_RO)]) (st := [.int x3, .int x2, .int x1, .ref 0]) (h := ks i a q r) (i := (.invokevirtual 66, 3, 93, 0, 9, 0, 244)) (mi_sL13 _ _ (by rfl)) (by rfl) (cy := mi_c93) rfl rfl (ke93_0 K.1.1 K.1.2 x1 x2 x3 (kNoW_mar R1)) (Nat.le_of_ble_eq_true rfl) ?_
  intro u1 i1 a1 q1 r1 g1 P1
  have g1I := g1.I
  have g1R := g1.R
  have KU1 := kAll_fr g1 (by decide +kernel) K
  refine mi_l_stepsK cx mi_sL13 5 _ (670, [(3, .int v), (2, .ref 116), (1, .ref 0), (0, .ref mi_RO)], [.int (v + 1), .ref mi_RO, .ref 116, .int u1], (149, 5163), ks i1 a1 q1 r1) (by rfl) ?_
  refine mi_l_iald cx (ax := (0, 0, 0, 0, 0)) (mi_sL13 _ _ (by rfl)) A1 ?_
  refine mi_l_stepsK cx mi_sL13 4 _ (675, [(3, .int v), (2, .ref 116), (1, .ref 0), (0, .ref mi_RO)], [.int (v + 2), .ref mi_RO, .int x1, .ref 116, .int u1], (149, 5163), ks i1 a1 q1 r1) (by rfl) ?_
  refine mi_l_iald cx (ax := (0, 0, 0, 0, 0)) (mi_sL13 _ _ (by rfl)) A2 ?_
  refine mi_l_stepsK cx mi_sL13 4 _ (680, [(3, .int v), (2, .ref 116), (1, .ref 0), (0, .ref mi_RO)], [.int (v + 3), .ref mi_RO, .int x2, .int x1, .ref 116, .int u1], (149, 5163), ks i1 a1 q1 r1) (by rfl) ?_
  refine mi_l_iald cx (ax := (0, 0, 0, 0, 0)) (mi_sL13 _ _ (by rfl)) A3 ?_
  refine mi_l_callI cx (pc := 681) (ls := [(3, .int v), (2, .ref 116), (1, .ref 0), (0, .ref mi_RO)]) (st := [.int x3, .int x2, .int x1, .ref 116, .int u1]) (h := ks i1 a1 q1 r1) (i := (.invokevirtual 69, 3, 183, 0, 9, 0, 432)) (mi_sL13 _ _ (by rfl)) (by rfl) (cy := mi_c183) rfl rfl (kz183_116 g1I g1R x1 x2 x3 (KU1.2.1.2.1)) (Nat.le_of_ble_eq_true rfl) ?_
  intro u2 i2 a2 q2 r2 g2 P2
  have K2 := kAll_fr g2 (by decide +kernel) KU1
  have Rn0 := kTB_fr g2 (by decide +kernel) (kTB_fr g1 (by decide +kernel) R0)
  have Rn1 := kMar_fr g2 (by decide +kernel) P2.2.1 (g2.fa 117 rfl) (g2.fi 7426 rfl) g1.R (kMar_fr g1 (by decide +kernel) (g1.fa 118 rfl) (g1.fa 117 rfl) (g1.fi 7426 rfl) K.1.2 R1)
  have ev := st_latch (i2 := i2) (a2 := a2) (q2 := q2) (r2 := r2) K R1 g1 P1 P2
  subst ev
  refine mi_l_b cx (u1 == u1) true (beq_self_eq_true u1) 1494 687 ([(3, .int v), (2, .ref 116), (1, .ref 0), (0, .ref mi_RO)], [], (149, 5163), ks i2 a2 q2 r2) (mi_st_sub mi_sL13 (by rfl)) ?_
  exact k _ _ _ _ ⟨K2, Rn0, Rn1⟩
set_option maxRecDepth 100000 in
set_option maxHeartbeats 4000000 in
theorem ml_order (cx : mi_CxL p s m c b ra cT D xl) {v : Int32} {i : Nat → Int32} {a : Nat → List Int32} {q : Nat → List Int64} {r : Nat → Nat} {x1 : Int32} {x2 : Int32} {x3 : Int32} (K : kAl i a q r) (k : ∀ i a q r, kAl i a q r → mi_LW p l e s m below meth c b ra cT D (1494, [(3, .int v), (2, .ref 116), (1, .ref 0), (0, .ref mi_RO)], [], (149, 5163), ks i a q r)) (A1 : kArg xl (v + 1) x1) (A2 : kArg xl (v + 2) x2) (A3 : kArg xl (v + 3) x3) : mi_LW p l e s m below meth c b ra cT D (689, [(3, .int v), (2, .ref 116), (1, .ref 0), (0, .ref mi_RO)], [], (149, 5163), ks i a q r) := by
  obtain ⟨K, R0, R1⟩ := K
  refine mi_l_stepsK cx mi_sL14 5 _ (694, [(3, .int v), (2, .ref 116), (1, .ref 0), (0, .ref mi_RO)], [.int (v + 1), .ref mi_RO, .ref 0], (149, 5163), ks i a q r) (by rfl) ?_
  refine mi_l_iald cx (ax := (0, 0, 0, 0, 0)) (mi_sL14 _ _ (by rfl)) A1 ?_
  refine mi_l_stepsK cx mi_sL14 4 _ (699, [(3, .int v), (2, .ref 116), (1, .ref 0), (0, .ref mi_RO)], [.int (v + 2), .ref mi_RO, .int x1, .ref 0], (149, 5163), ks i a q r) (by rfl) ?_
  refine mi_l_iald cx (ax := (0, 0, 0, 0, 0)) (mi_sL14 _ _ (by rfl)) A2 ?_
  refine mi_l_stepsK cx mi_sL14 4 _ (704, [(3, .int v), (2, .ref 116), (1, .ref 0), (0, .ref mi_RO)], [.int (v + 3), .ref mi_RO, .int x2, .int x1, .ref 0], (149, 5163), ks i a q r) (by rfl) ?_
  refine mi_l_iald cx (ax := (0, 0, 0, 0, 0)) (mi_sL14 _ _ (by rfl)) A3 ?_
  refine mi_l_callI cx (pc := 705) (ls := [(3, .int v), (2, .ref 116), (1, .ref 0), (0, .ref mi_RO)]) (st := [.int x3, .int x2, .int x1, .ref 0]) (h := ks i a q r) (i := (.invokevirtual 70, 3, 94, 0, 9, 0, 246)) (mi_sL14 _ _ (by rfl)) (by rfl) (cy := mi_c94) rfl rfl (kc94_0 K.1.1 K.1.2 x1 x2 x3) (Nat.le_of_ble_eq_true rfl) ?_
  intro u1 i1 a1 q1 r1 g1 P1
  have g1I := g1.I
  have g1R := g1.R
  have KU1 := kAll_fr g1 (by decide +kernel) K
  refine mi_l_stepsK cx mi_sL14 6 _ (714, [(3, .int v), (2, .ref 116), (1, .ref 0), (0, .ref mi_RO)], [.int (v + 1), .ref mi_RO, .ref 116], (149, 5163), ks i1 a1 q1 r1) (by rfl) ?_
  refine mi_l_iald cx (ax := (0, 0, 0, 0, 0)) (mi_sL14 _ _ (by rfl)) A1 ?_
  refine mi_l_stepsK cx mi_sL14 4 _ (719, [(3, .int v), (2, .ref 116), (1, .ref 0), (0, .ref mi_RO)], [.int (v + 2), .ref mi_RO, .int x1, .ref 116], (149, 5163), ks i1 a1 q1 r1) (by rfl) ?_
  refine mi_l_iald cx (ax := (0, 0, 0, 0, 0)) (mi_sL14 _ _ (by rfl)) A2 ?_
  refine mi_l_stepsK cx mi_sL14 4 _ (724, [(3, .int v), (2, .ref 116), (1, .ref 0), (0, .ref mi_RO)], [.int (v + 3), .ref mi_RO, .int x2, .int x1, .ref 116], (149, 5163), ks i1 a1 q1 r1) (by rfl) ?_
  refine mi_l_iald cx (ax := (0, 0, 0, 0, 0)) (mi_sL14 _ _ (by rfl)) A3 ?_
  refine mi_l_callI cx (pc := 725) (ls := [(3, .int v), (2, .ref 116), (1, .ref 0), (0, .ref mi_RO)]) (st := [.int x3, .int x2, .int x1, .ref 116]) (h := ks i1 a1 q1 r1) (i := (.invokevirtual 73, 3, 185, 0, 9, 0, 434)) (mi_sL14 _ _ (by rfl)) (by rfl) (cy := mi_c185) rfl rfl (ke185_116 g1I g1R x1 x2 x3 (KU1.2.1.2.1)) (Nat.le_of_ble_eq_true rfl) ?_
  intro u2 i2 a2 q2 r2 g2 P2
  have K2 := kAll_fr g2 (by decide +kernel) KU1
  have Rn0 := kTB_fr g2 (by decide +kernel) (kTB_fr g1 (by decide +kernel) R0)
  have Rn1 := kMar_fr g2 (by decide +kernel) P2.2 (g2.fa 117 rfl) (g2.fi 7426 rfl) g1.R (kMar_fr g1 (by decide +kernel) (g1.fa 118 rfl) (g1.fa 117 rfl) (g1.fi 7426 rfl) K.1.2 R1)
  refine mi_l_stepsK cx mi_sL14 2 _ (1494, [(3, .int v), (2, .ref 116), (1, .ref 0), (0, .ref mi_RO)], [], (149, 5163), ks i2 a2 q2 r2) (by rfl) ?_
  exact k _ _ _ _ ⟨K2, Rn0, Rn1⟩
set_option maxRecDepth 100000 in
set_option maxHeartbeats 4000000 in
theorem ml_flow (cx : mi_CxL p s m c b ra cT D xl) {v : Int32} {i : Nat → Int32} {a : Nat → List Int32} {q : Nat → List Int64} {r : Nat → Nat} {x1 : Int32} {x2 : Int32} (K : kAl i a q r) (k : ∀ i a q r, kAl i a q r → mi_LW p l e s m below meth c b ra cT D (1494, [(3, .int v), (2, .ref 116), (1, .ref 0), (0, .ref mi_RO)], [], (149, 5163), ks i a q r)) (A1 : kArg xl (v + 1) x1) (A2 : kArg xl (v + 2) x2) : mi_LW p l e s m below meth c b ra cT D (732, [(3, .int v), (2, .ref 116), (1, .ref 0), (0, .ref mi_RO)], [], (149, 5163), ks i a q r) := by
  obtain ⟨K, R0, R1⟩ := K
  refine mi_l_stepsK cx mi_sL15 5 _ (737, [(3, .int v), (2, .ref 116), (1, .ref 0), (0, .ref mi_RO)], [.int (v + 1), .ref mi_RO, .ref 0], (149, 5163), ks i a q r) (by rfl) ?_
  refine mi_l_iald cx (ax := (0, 0, 0, 0, 0)) (mi_sL15 _ _ (by rfl)) A1 ?_
  refine mi_l_stepsK cx mi_sL15 4 _ (742, [(3, .int v), (2, .ref 116), (1, .ref 0), (0, .ref mi_RO)], [.int (v + 2), .ref mi_RO, .int x1, .ref 0], (149, 5163), ks i a q r) (by rfl) ?_
  refine mi_l_iald cx (ax := (0, 0, 0, 0, 0)) (mi_sL15 _ _ (by rfl)) A2 ?_
  refine mi_l_callI cx (pc := 743) (ls := [(3, .int v), (2, .ref 116), (1, .ref 0), (0, .ref mi_RO)]) (st := [.int x2, .int x1, .ref 0]) (h := ks i a q r) (i := (.invokevirtual 74, 3, 95, 0, 9, 0, 253)) (mi_sL15 _ _ (by rfl)) (by rfl) (cy := mi_c95) rfl rfl (kc95_0 K.1.1 K.1.2 x1 x2) (Nat.le_of_ble_eq_true rfl) ?_
  intro u1 i1 a1 q1 r1 g1 P1
  have g1I := g1.I
  have g1R := g1.R
  have KU1 := kAll_fr g1 (by decide +kernel) K
  refine mi_l_stepsK cx mi_sL15 6 _ (752, [(3, .int v), (2, .ref 116), (1, .ref 0), (0, .ref mi_RO)], [.int (v + 1), .ref mi_RO, .ref 116], (149, 5163), ks i1 a1 q1 r1) (by rfl) ?_
  refine mi_l_iald cx (ax := (0, 0, 0, 0, 0)) (mi_sL15 _ _ (by rfl)) A1 ?_
  refine mi_l_stepsK cx mi_sL15 4 _ (757, [(3, .int v), (2, .ref 116), (1, .ref 0), (0, .ref mi_RO)], [.int (v + 2), .ref mi_RO, .int x1, .ref 116], (149, 5163), ks i1 a1 q1 r1) (by rfl) ?_
  refine mi_l_iald cx (ax := (0, 0, 0, 0, 0)) (mi_sL15 _ _ (by rfl)) A2 ?_
  refine mi_l_callI cx (pc := 758) (ls := [(3, .int v), (2, .ref 116), (1, .ref 0), (0, .ref mi_RO)]) (st := [.int x2, .int x1, .ref 116]) (h := ks i1 a1 q1 r1) (i := (.invokevirtual 77, 3, 187, 0, 9, 0, 437)) (mi_sL15 _ _ (by rfl)) (by rfl) (cy := mi_c187) rfl rfl (kz187_116 g1I g1R x1 x2 (KU1.2.1.2.1)) (Nat.le_of_ble_eq_true rfl) ?_
  intro u2 i2 a2 q2 r2 g2 P2
  have K2 := kAll_fr g2 (by decide +kernel) KU1
  have Rn0 := kTB_fr g2 (by decide +kernel) (kTB_fr g1 (by decide +kernel) R0)
  have Rn1 := kMar_fr g2 (by decide +kernel) P2.2.1 (g2.fa 117 rfl) (g2.fi 7426 rfl) g1.R (kMar_fr g1 (by decide +kernel) (g1.fa 118 rfl) (g1.fa 117 rfl) (g1.fi 7426 rfl) K.1.2 R1)
  refine mi_l_stepsK cx mi_sL15 2 _ (1494, [(3, .int v), (2, .ref 116), (1, .ref 0), (0, .ref mi_RO)], [], (149, 5163), ks i2 a2 q2 r2) (by rfl) ?_
  exact k _ _ _ _ ⟨K2, Rn0, Rn1⟩
set_option maxRecDepth 100000 in
set_option maxHeartbeats 4000000 in
theorem ml_round (cx : mi_CxL p s m c b ra cT D xl) {v : Int32} {i : Nat → Int32} {a : Nat → List Int32} {q : Nat → List Int64} {r : Nat → Nat} {x1 : Int32} {x2 : Int32} (K : kAl i a q r) (k : ∀ i a q r, kAl i a q r → mi_LW p l e s m below meth c b ra cT D (1494, [(3, .int v), (2, .ref 116), (1, .ref 0), (0, .ref mi_RO)], [], (149, 5163), ks i a q r)) (A1 : kArg xl (v + 1) x1) (A2 : kArg xl (v + 2) x2) : mi_LW p l e s m below meth c b ra cT D (765, [(3, .int v), (2, .ref 116), (1, .ref 0), (0, .ref mi_RO)], [], (149, 5163), ks i a q r) := by
  obtain ⟨K, R0, R1⟩ := K
  refine mi_l_stepsK cx mi_sL16 5 _ (770, [(3, .int v), (2, .ref 116), (1, .ref 0), (0, .ref mi_RO)], [.int (v + 1), .ref mi_RO, .ref 0], (149, 5163), ks i a q r) (by rfl) ?_
  refine mi_l_iald cx (ax := (0, 0, 0, 0, 0)) (mi_sL16 _ _ (by rfl)) A1 ?_
  refine mi_l_stepsK cx mi_sL16 4 _ (775, [(3, .int v), (2, .ref 116), (1, .ref 0), (0, .ref mi_RO)], [.int (v + 2), .ref mi_RO, .int x1, .ref 0], (149, 5163), ks i a q r) (by rfl) ?_
  refine mi_l_iald cx (ax := (0, 0, 0, 0, 0)) (mi_sL16 _ _ (by rfl)) A2 ?_
  refine mi_l_callI cx (pc := 776) (ls := [(3, .int v), (2, .ref 116), (1, .ref 0), (0, .ref mi_RO)]) (st := [.int x2, .int x1, .ref 0]) (h := ks i a q r) (i := (.invokevirtual 78, 3, 96, 0, 9, 0, 255)) (mi_sL16 _ _ (by rfl)) (by rfl) (cy := mi_c96) rfl rfl (kc96_0 K.1.1 K.1.2 x1 x2) (Nat.le_of_ble_eq_true rfl) ?_
  intro u1 i1 a1 q1 r1 g1 P1
  have g1I := g1.I
  have g1R := g1.R
  have KU1 := kAll_fr g1 (by decide +kernel) K
  refine mi_l_stepsK cx mi_sL16 6 _ (785, [(3, .int v), (2, .ref 116), (1, .ref 0), (0, .ref mi_RO)], [.int (v + 1), .ref mi_RO, .ref 116], (149, 5163), ks i1 a1 q1 r1) (by rfl) ?_
  refine mi_l_iald cx (ax := (0, 0, 0, 0, 0)) (mi_sL16 _ _ (by rfl)) A1 ?_
  refine mi_l_stepsK cx mi_sL16 4 _ (790, [(3, .int v), (2, .ref 116), (1, .ref 0), (0, .ref mi_RO)], [.int (v + 2), .ref mi_RO, .int x1, .ref 116], (149, 5163), ks i1 a1 q1 r1) (by rfl) ?_
  refine mi_l_iald cx (ax := (0, 0, 0, 0, 0)) (mi_sL16 _ _ (by rfl)) A2 ?_
  refine mi_l_callI cx (pc := 791) (ls := [(3, .int v), (2, .ref 116), (1, .ref 0), (0, .ref mi_RO)]) (st := [.int x2, .int x1, .ref 116]) (h := ks i1 a1 q1 r1) (i := (.invokevirtual 81, 3, 189, 0, 9, 0, 439)) (mi_sL16 _ _ (by rfl)) (by rfl) (cy := mi_c189) rfl rfl (ke189_116 g1I g1R x1 x2 (KU1.2.1.2.1)) (Nat.le_of_ble_eq_true rfl) ?_
  intro u2 i2 a2 q2 r2 g2 P2
  have K2 := kAll_fr g2 (by decide +kernel) KU1
  have Rn0 := kTB_fr g2 (by decide +kernel) (kTB_fr g1 (by decide +kernel) R0)
  have Rn1 := kMar_fr g2 (by decide +kernel) P2.2 (g2.fa 117 rfl) (g2.fi 7426 rfl) g1.R (kMar_fr g1 (by decide +kernel) (g1.fa 118 rfl) (g1.fa 117 rfl) (g1.fi 7426 rfl) K.1.2 R1)
  refine mi_l_stepsK cx mi_sL16 2 _ (1494, [(3, .int v), (2, .ref 116), (1, .ref 0), (0, .ref mi_RO)], [], (149, 5163), ks i2 a2 q2 r2) (by rfl) ?_
  exact k _ _ _ _ ⟨K2, Rn0, Rn1⟩
set_option maxRecDepth 100000 in
set_option maxHeartbeats 4000000 in
theorem ml_judge (cx : mi_CxL p s m c b ra cT D xl) {v : Int32} {i : Nat → Int32} {a : Nat → List Int32} {q : Nat → List Int64} {r : Nat → Nat} {x1 : Int32} (K : kAl i a q r) (k : ∀ i a q r, kAl i a q r → mi_LW p l e s m below meth c b ra cT D (1494, [(3, .int v), (2, .ref 116), (1, .ref 0), (0, .ref mi_RO)], [], (149, 5163), ks i a q r)) (A1 : kArg xl (v + 1) x1) : mi_LW p l e s m below meth c b ra cT D (798, [(3, .int v), (2, .ref 116), (1, .ref 0), (0, .ref mi_RO)], [], (149, 5163), ks i a q r) := by
  obtain ⟨K, R0, R1⟩ := K
  refine mi_l_stepsK cx mi_sL17 5 _ (803, [(3, .int v), (2, .ref 116), (1, .ref 0), (0, .ref mi_RO)], [.int (v + 1), .ref mi_RO, .ref 0], (149, 5163), ks i a q r) (by rfl) ?_
  refine mi_l_iald cx (ax := (0, 0, 0, 0, 0)) (mi_sL17 _ _ (by rfl)) A1 ?_
  refine mi_l_callI cx (pc := 804) (ls := [(3, .int v), (2, .ref 116), (1, .ref 0), (0, .ref mi_RO)]) (st := [.int x1, .ref 0]) (h := ks i a q r) (i := (.invokevirtual 82, 3, 97, 0, 9, 0, 259)) (mi_sL17 _ _ (by rfl)) (by rfl) (cy := mi_c97) rfl rfl (kc97_0 K.1.1 K.1.2 x1) (Nat.le_of_ble_eq_true rfl) ?_
  intro u1 i1 a1 q1 r1 g1 P1
  have g1I := g1.I
  have g1R := g1.R
  have KU1 := kAll_fr g1 (by decide +kernel) K
  refine mi_l_stepsK cx mi_sL17 6 _ (813, [(3, .int v), (2, .ref 116), (1, .ref 0), (0, .ref mi_RO)], [.int (v + 1), .ref mi_RO, .ref 116], (149, 5163), ks i1 a1 q1 r1) (by rfl) ?_
  refine mi_l_iald cx (ax := (0, 0, 0, 0, 0)) (mi_sL17 _ _ (by rfl)) A1 ?_
  refine mi_l_callI cx (pc := 814) (ls := [(3, .int v), (2, .ref 116), (1, .ref 0), (0, .ref mi_RO)]) (st := [.int x1, .ref 116]) (h := ks i1 a1 q1 r1) (i := (.invokevirtual 85, 3, 193, 0, 9, 0, 441)) (mi_sL17 _ _ (by rfl)) (by rfl) (cy := mi_c193) rfl rfl (ke193_116 g1I g1R x1 (KU1.2.1.2.1)) (Nat.le_of_ble_eq_true rfl) ?_
  intro u2 i2 a2 q2 r2 g2 P2
  have K2 := kAll_fr g2 (by decide +kernel) KU1
  have Rn0 := kTB_fr g2 (by decide +kernel) (kTB_fr g1 (by decide +kernel) R0)
  have Rn1 := kMar_fr g2 (by decide +kernel) P2.2 (g2.fa 117 rfl) (g2.fi 7426 rfl) g1.R (kMar_fr g1 (by decide +kernel) (g1.fa 118 rfl) (g1.fa 117 rfl) (g1.fi 7426 rfl) K.1.2 R1)
  refine mi_l_stepsK cx mi_sL17 2 _ (1494, [(3, .int v), (2, .ref 116), (1, .ref 0), (0, .ref mi_RO)], [], (149, 5163), ks i2 a2 q2 r2) (by rfl) ?_
  exact k _ _ _ _ ⟨K2, Rn0, Rn1⟩
set_option maxRecDepth 100000 in
set_option maxHeartbeats 4000000 in
theorem ml_fits (cx : mi_CxL p s m c b ra cT D xl) {v : Int32} {i : Nat → Int32} {a : Nat → List Int32} {q : Nat → List Int64} {r : Nat → Nat} {x1 : Int32} {x2 : Int32} {x3 : Int32} (K : kAl i a q r) (k : ∀ i a q r, kAl i a q r → mi_LW p l e s m below meth c b ra cT D (1494, [(3, .int v), (2, .ref 116), (1, .ref 0), (0, .ref mi_RO)], [], (149, 5163), ks i a q r)) (A1 : kArg xl (v + 1) x1) (A2 : kArg xl (v + 2) x2) (A3 : kArg xl (v + 3) x3) : mi_LW p l e s m below meth c b ra cT D (821, [(3, .int v), (2, .ref 116), (1, .ref 0), (0, .ref mi_RO)], [], (149, 5163), ks i a q r) := by
  obtain ⟨K, R0, R1⟩ := K
  refine mi_l_stepsK cx mi_sL18 5 _ (826, [(3, .int v), (2, .ref 116), (1, .ref 0), (0, .ref mi_RO)], [.int (v + 1), .ref mi_RO, .ref 0], (149, 5163), ks i a q r) (by rfl) ?_
  refine mi_l_iald cx (ax := (0, 0, 0, 0, 0)) (mi_sL18 _ _ (by rfl)) A1 ?_
  refine mi_l_stepsK cx mi_sL18 4 _ (831, [(3, .int v), (2, .ref 116), (1, .ref 0), (0, .ref mi_RO)], [.int (v + 2), .ref mi_RO, .int x1, .ref 0], (149, 5163), ks i a q r) (by rfl) ?_
  refine mi_l_iald cx (ax := (0, 0, 0, 0, 0)) (mi_sL18 _ _ (by rfl)) A2 ?_
  refine mi_l_stepsK cx mi_sL18 4 _ (836, [(3, .int v), (2, .ref 116), (1, .ref 0), (0, .ref mi_RO)], [.int (v + 3), .ref mi_RO, .int x2, .int x1, .ref 0], (149, 5163), ks i a q r) (by rfl) ?_
  refine mi_l_iald cx (ax := (0, 0, 0, 0, 0)) (mi_sL18 _ _ (by rfl)) A3 ?_
  refine mi_l_callI cx (pc := 837) (ls := [(3, .int v), (2, .ref 116), (1, .ref 0), (0, .ref mi_RO)]) (st := [.int x3, .int x2, .int x1, .ref 0]) (h := ks i a q r) (i := (.invokevirtual 86, 3, 98, 0, 9, 0, 263)) (mi_sL18 _ _ (by rfl)) (by rfl) (cy := mi_c98) rfl rfl (kc98_0 K.1.1 K.1.2 x1 x2 x3) (Nat.le_of_ble_eq_true rfl) ?_
  intro u1 i1 a1 q1 r1 g1 P1
  have g1I := g1.I
  have g1R := g1.R
  have KU1 := kAll_fr g1 (by decide +kernel) K
  refine mi_l_stepsK cx mi_sL18 6 _ (846, [(3, .int v), (2, .ref 116), (1, .ref 0), (0, .ref mi_RO)], [.int (v + 1), .ref mi_RO, .ref 116], (149, 5163), ks i1 a1 q1 r1) (by rfl) ?_
  refine mi_l_iald cx (ax := (0, 0, 0, 0, 0)) (mi_sL18 _ _ (by rfl)) A1 ?_
  refine mi_l_stepsK cx mi_sL18 4 _ (851, [(3, .int v), (2, .ref 116), (1, .ref 0), (0, .ref mi_RO)], [.int (v + 2), .ref mi_RO, .int x1, .ref 116], (149, 5163), ks i1 a1 q1 r1) (by rfl) ?_
  refine mi_l_iald cx (ax := (0, 0, 0, 0, 0)) (mi_sL18 _ _ (by rfl)) A2 ?_
  refine mi_l_stepsK cx mi_sL18 4 _ (856, [(3, .int v), (2, .ref 116), (1, .ref 0), (0, .ref mi_RO)], [.int (v + 3), .ref mi_RO, .int x2, .int x1, .ref 116], (149, 5163), ks i1 a1 q1 r1) (by rfl) ?_
  refine mi_l_iald cx (ax := (0, 0, 0, 0, 0)) (mi_sL18 _ _ (by rfl)) A3 ?_
  refine mi_l_callI cx (pc := 857) (ls := [(3, .int v), (2, .ref 116), (1, .ref 0), (0, .ref mi_RO)]) (st := [.int x3, .int x2, .int x1, .ref 116]) (h := ks i1 a1 q1 r1) (i := (.invokevirtual 89, 3, 197, 0, 9, 0, 445)) (mi_sL18 _ _ (by rfl)) (by rfl) (cy := mi_c197) rfl rfl (ke197_116 g1I g1R x1 x2 x3 (KU1.2.1.2.1)) (Nat.le_of_ble_eq_true rfl) ?_
  intro u2 i2 a2 q2 r2 g2 P2
  have K2 := kAll_fr g2 (by decide +kernel) KU1
  have Rn0 := kTB_fr g2 (by decide +kernel) (kTB_fr g1 (by decide +kernel) R0)
  have Rn1 := kMar_fr g2 (by decide +kernel) P2.2.1 P2.2.2 (kj_v P2.1) g1.R (kMar_fr g1 (by decide +kernel) (g1.fa 118 rfl) (g1.fa 117 rfl) (g1.fi 7426 rfl) K.1.2 R1)
  refine mi_l_stepsK cx mi_sL18 2 _ (1494, [(3, .int v), (2, .ref 116), (1, .ref 0), (0, .ref mi_RO)], [], (149, 5163), ks i2 a2 q2 r2) (by rfl) ?_
  exact k _ _ _ _ ⟨K2, Rn0, Rn1⟩
set_option maxRecDepth 100000 in
set_option maxHeartbeats 4000000 in
theorem ml_byTurns (cx : mi_CxL p s m c b ra cT D xl) {v : Int32} {i : Nat → Int32} {a : Nat → List Int32} {q : Nat → List Int64} {r : Nat → Nat} {x1 : Int32} {x2 : Int32} {x3 : Int32} (K : kAl i a q r) (k : ∀ i a q r, kAl i a q r → mi_LW p l e s m below meth c b ra cT D (1494, [(3, .int v), (2, .ref 116), (1, .ref 0), (0, .ref mi_RO)], [], (149, 5163), ks i a q r)) (A1 : kArg xl (v + 1) x1) (A2 : kArg xl (v + 2) x2) (A3 : kArg xl (v + 3) x3) : mi_LW p l e s m below meth c b ra cT D (864, [(3, .int v), (2, .ref 116), (1, .ref 0), (0, .ref mi_RO)], [], (149, 5163), ks i a q r) := by
  obtain ⟨K, R0, R1⟩ := K
  refine mi_l_stepsK cx mi_sL19 5 _ (869, [(3, .int v), (2, .ref 116), (1, .ref 0), (0, .ref mi_RO)], [.int (v + 1), .ref mi_RO, .ref 0], (149, 5163), ks i a q r) (by rfl) ?_
  refine mi_l_iald cx (ax := (0, 0, 0, 0, 0)) (mi_sL19 _ _ (by rfl)) A1 ?_
  refine mi_l_stepsK cx mi_sL19 4 _ (874, [(3, .int v), (2, .ref 116), (1, .ref 0), (0, .ref mi_RO)], [.int (v + 2), .ref mi_RO, .int x1, .ref 0], (149, 5163), ks i a q r) (by rfl) ?_
  refine mi_l_iald cx (ax := (0, 0, 0, 0, 0)) (mi_sL19 _ _ (by rfl)) A2 ?_
  refine mi_l_stepsK cx mi_sL19 4 _ (879, [(3, .int v), (2, .ref 116), (1, .ref 0), (0, .ref mi_RO)], [.int (v + 3), .ref mi_RO, .int x2, .int x1, .ref 0], (149, 5163), ks i a q r) (by rfl) ?_
  refine mi_l_iald cx (ax := (0, 0, 0, 0, 0)) (mi_sL19 _ _ (by rfl)) A3 ?_
  refine mi_l_callI cx (pc := 880) (ls := [(3, .int v), (2, .ref 116), (1, .ref 0), (0, .ref mi_RO)]) (st := [.int x3, .int x2, .int x1, .ref 0]) (h := ks i a q r) (i := (.invokevirtual 90, 3, 100, 0, 9, 0, 272)) (mi_sL19 _ _ (by rfl)) (by rfl) (cy := mi_c100) rfl rfl (kc100_0 K.1.1 K.1.2 x1 x2 x3) (Nat.le_of_ble_eq_true rfl) ?_
  intro u1 i1 a1 q1 r1 g1 P1
  have g1I := g1.I
  have g1R := g1.R
  have KU1 := kAll_fr g1 (by decide +kernel) K
  refine mi_l_stepsK cx mi_sL19 6 _ (889, [(3, .int v), (2, .ref 116), (1, .ref 0), (0, .ref mi_RO)], [.int (v + 1), .ref mi_RO, .ref 116], (149, 5163), ks i1 a1 q1 r1) (by rfl) ?_
  refine mi_l_iald cx (ax := (0, 0, 0, 0, 0)) (mi_sL19 _ _ (by rfl)) A1 ?_
  refine mi_l_stepsK cx mi_sL19 4 _ (894, [(3, .int v), (2, .ref 116), (1, .ref 0), (0, .ref mi_RO)], [.int (v + 2), .ref mi_RO, .int x1, .ref 116], (149, 5163), ks i1 a1 q1 r1) (by rfl) ?_
  refine mi_l_iald cx (ax := (0, 0, 0, 0, 0)) (mi_sL19 _ _ (by rfl)) A2 ?_
  refine mi_l_stepsK cx mi_sL19 4 _ (899, [(3, .int v), (2, .ref 116), (1, .ref 0), (0, .ref mi_RO)], [.int (v + 3), .ref mi_RO, .int x2, .int x1, .ref 116], (149, 5163), ks i1 a1 q1 r1) (by rfl) ?_
  refine mi_l_iald cx (ax := (0, 0, 0, 0, 0)) (mi_sL19 _ _ (by rfl)) A3 ?_
  refine mi_l_callI cx (pc := 900) (ls := [(3, .int v), (2, .ref 116), (1, .ref 0), (0, .ref mi_RO)]) (st := [.int x3, .int x2, .int x1, .ref 116]) (h := ks i1 a1 q1 r1) (i := (.invokevirtual 93, 3, 200, 0, 9, 0, 449)) (mi_sL19 _ _ (by rfl)) (by rfl) (cy := mi_c200) rfl rfl (ke200_116 g1I g1R x1 x2 x3 (KU1.2.1.2.1)) (Nat.le_of_ble_eq_true rfl) ?_
  intro u2 i2 a2 q2 r2 g2 P2
  have K2 := kAll_fr g2 (by decide +kernel) KU1
  have Rn0 := kTB_fr g2 (by decide +kernel) (kTB_fr g1 (by decide +kernel) R0)
  have Rn1 := kMar_fr g2 (by decide +kernel) P2.2 (g2.fa 117 rfl) (g2.fi 7426 rfl) g1.R (kMar_fr g1 (by decide +kernel) (g1.fa 118 rfl) (g1.fa 117 rfl) (g1.fi 7426 rfl) K.1.2 R1)
  refine mi_l_stepsK cx mi_sL19 2 _ (1494, [(3, .int v), (2, .ref 116), (1, .ref 0), (0, .ref mi_RO)], [], (149, 5163), ks i2 a2 q2 r2) (by rfl) ?_
  exact k _ _ _ _ ⟨K2, Rn0, Rn1⟩
set_option maxRecDepth 100000 in
set_option maxHeartbeats 4000000 in
theorem ml_drawn (cx : mi_CxL p s m c b ra cT D xl) {v : Int32} {i : Nat → Int32} {a : Nat → List Int32} {q : Nat → List Int64} {r : Nat → Nat} {x1 : Int32} {x2 : Int32} {x3 : Int32} (K : kAl i a q r) (k : ∀ i a q r, kAl i a q r → mi_LW p l e s m below meth c b ra cT D (1494, [(3, .int v), (2, .ref 116), (1, .ref 0), (0, .ref mi_RO)], [], (149, 5163), ks i a q r)) (A1 : kArg xl (v + 1) x1) (A2 : kArg xl (v + 2) x2) (A3 : kArg xl (v + 3) x3) : mi_LW p l e s m below meth c b ra cT D (907, [(3, .int v), (2, .ref 116), (1, .ref 0), (0, .ref mi_RO)], [], (149, 5163), ks i a q r) := by
  obtain ⟨K, R0, R1⟩ := K
  refine mi_l_stepsK cx mi_sL20 5 _ (912, [(3, .int v), (2, .ref 116), (1, .ref 0), (0, .ref mi_RO)], [.int (v + 1), .ref mi_RO, .ref 0], (149, 5163), ks i a q r) (by rfl) ?_
  refine mi_l_iald cx (ax := (0, 0, 0, 0, 0)) (mi_sL20 _ _ (by rfl)) A1 ?_
  refine mi_l_stepsK cx mi_sL20 4 _ (917, [(3, .int v), (2, .ref 116), (1, .ref 0), (0, .ref mi_RO)], [.int (v + 2), .ref mi_RO, .int x1, .ref 0], (149, 5163), ks i a q r) (by rfl) ?_
  refine mi_l_iald cx (ax := (0, 0, 0, 0, 0)) (mi_sL20 _ _ (by rfl)) A2 ?_
  refine mi_l_stepsK cx mi_sL20 4 _ (922, [(3, .int v), (2, .ref 116), (1, .ref 0), (0, .ref mi_RO)], [.int (v + 3), .ref mi_RO, .int x2, .int x1, .ref 0], (149, 5163), ks i a q r) (by rfl) ?_
  refine mi_l_iald cx (ax := (0, 0, 0, 0, 0)) (mi_sL20 _ _ (by rfl)) A3 ?_
  refine mi_l_callI cx (pc := 923) (ls := [(3, .int v), (2, .ref 116), (1, .ref 0), (0, .ref mi_RO)]) (st := [.int x3, .int x2, .int x1, .ref 0]) (h := ks i a q r) (i := (.invokevirtual 94, 3, 101, 0, 9, 0, 277)) (mi_sL20 _ _ (by rfl)) (by rfl) (cy := mi_c101) rfl rfl (kc101_0 K.1.1 K.1.2 x1 x2 x3) (Nat.le_of_ble_eq_true rfl) ?_
  intro u1 i1 a1 q1 r1 g1 P1
  have g1I := g1.I
  have g1R := g1.R
  have KU1 := kAll_fr g1 (by decide +kernel) K
  refine mi_l_stepsK cx mi_sL20 6 _ (932, [(3, .int v), (2, .ref 116), (1, .ref 0), (0, .ref mi_RO)], [.int (v + 1), .ref mi_RO, .ref 116], (149, 5163), ks i1 a1 q1 r1) (by rfl) ?_
  refine mi_l_iald cx (ax := (0, 0, 0, 0, 0)) (mi_sL20 _ _ (by rfl)) A1 ?_
  refine mi_l_stepsK cx mi_sL20 4 _ (937, [(3, .int v), (2, .ref 116), (1, .ref 0), (0, .ref mi_RO)], [.int (v + 2), .ref mi_RO, .int x1, .ref 116], (149, 5163), ks i1 a1 q1 r1) (by rfl) ?_
  refine mi_l_iald cx (ax := (0, 0, 0, 0, 0)) (mi_sL20 _ _ (by rfl)) A2 ?_
  refine mi_l_stepsK cx mi_sL20 4 _ (942, [(3, .int v), (2, .ref 116), (1, .ref 0), (0, .ref mi_RO)], [.int (v + 3), .ref mi_RO, .int x2, .int x1, .ref 116], (149, 5163), ks i1 a1 q1 r1) (by rfl) ?_
  refine mi_l_iald cx (ax := (0, 0, 0, 0, 0)) (mi_sL20 _ _ (by rfl)) A3 ?_
  refine mi_l_callI cx (pc := 943) (ls := [(3, .int v), (2, .ref 116), (1, .ref 0), (0, .ref mi_RO)]) (st := [.int x3, .int x2, .int x1, .ref 116]) (h := ks i1 a1 q1 r1) (i := (.invokevirtual 97, 3, 201, 0, 9, 0, 453)) (mi_sL20 _ _ (by rfl)) (by rfl) (cy := mi_c201) rfl rfl (ke201_116 g1I g1R x1 x2 x3 (KU1.2.1.2.1)) (Nat.le_of_ble_eq_true rfl) ?_
  intro u2 i2 a2 q2 r2 g2 P2
  have K2 := kAll_fr g2 (by decide +kernel) KU1
  have Rn0 := kTB_fr g2 (by decide +kernel) (kTB_fr g1 (by decide +kernel) R0)
  have Rn1 := kMar_fr g2 (by decide +kernel) P2.2 (g2.fa 117 rfl) (g2.fi 7426 rfl) g1.R (kMar_fr g1 (by decide +kernel) (g1.fa 118 rfl) (g1.fa 117 rfl) (g1.fi 7426 rfl) K.1.2 R1)
  refine mi_l_stepsK cx mi_sL20 2 _ (1494, [(3, .int v), (2, .ref 116), (1, .ref 0), (0, .ref mi_RO)], [], (149, 5163), ks i2 a2 q2 r2) (by rfl) ?_
  exact k _ _ _ _ ⟨K2, Rn0, Rn1⟩
set_option maxRecDepth 100000 in
set_option maxHeartbeats 4000000 in
theorem ml_comes (cx : mi_CxL p s m c b ra cT D xl) {v : Int32} {i : Nat → Int32} {a : Nat → List Int32} {q : Nat → List Int64} {r : Nat → Nat} {x1 : Int32} (K : kAl i a q r) (k : ∀ i a q r, kAl i a q r → mi_LW p l e s m below meth c b ra cT D (1494, [(3, .int v), (2, .ref 116), (1, .ref 0), (0, .ref mi_RO)], [], (149, 5163), ks i a q r)) (A1 : kArg xl (v + 1) x1) : mi_LW p l e s m below meth c b ra cT D (950, [(3, .int v), (2, .ref 116), (1, .ref 0), (0, .ref mi_RO)], [], (149, 5163), ks i a q r) := by
  obtain ⟨K, R0, R1⟩ := K
  refine mi_l_stepsK cx mi_sL21 5 _ (955, [(3, .int v), (2, .ref 116), (1, .ref 0), (0, .ref mi_RO)], [.int (v + 1), .ref mi_RO, .ref 0], (149, 5163), ks i a q r) (by rfl) ?_
  refine mi_l_iald cx (ax := (0, 0, 0, 0, 0)) (mi_sL21 _ _ (by rfl)) A1 ?_
  refine mi_l_callI cx (pc := 956) (ls := [(3, .int v), (2, .ref 116), (1, .ref 0), (0, .ref mi_RO)]) (st := [.int x1, .ref 0]) (h := ks i a q r) (i := (.invokevirtual 98, 3, 102, 0, 9, 0, 280)) (mi_sL21 _ _ (by rfl)) (by rfl) (cy := mi_c102) rfl rfl (ke102_0 K.1.1 K.1.2 x1 (mar_3rd K.1.1 R1)) (Nat.le_of_ble_eq_true rfl) ?_
  intro u1 i1 a1 q1 r1 g1 P1
  have g1I := g1.I
  have g1R := g1.R
  have KU1 := kAll_fr g1 (by decide +kernel) K
  refine mi_l_stepsK cx mi_sL21 6 _ (965, [(3, .int v), (2, .ref 116), (1, .ref 0), (0, .ref mi_RO)], [.int (v + 1), .ref mi_RO, .ref 116], (149, 5163), ks i1 a1 q1 r1) (by rfl) ?_
  refine mi_l_iald cx (ax := (0, 0, 0, 0, 0)) (mi_sL21 _ _ (by rfl)) A1 ?_
  refine mi_l_callI cx (pc := 966) (ls := [(3, .int v), (2, .ref 116), (1, .ref 0), (0, .ref mi_RO)]) (st := [.int x1, .ref 116]) (h := ks i1 a1 q1 r1) (i := (.invokevirtual 101, 3, 202, 0, 9, 0, 455)) (mi_sL21 _ _ (by rfl)) (by rfl) (cy := mi_c202) rfl rfl (ke202_116 g1I g1R x1 (KU1.2.1.2.1)) (Nat.le_of_ble_eq_true rfl) ?_
  intro u2 i2 a2 q2 r2 g2 P2
  have K2 := kAll_fr g2 (by decide +kernel) KU1
  have Rn0 := kTB_fr g2 (by decide +kernel) (kTB_fr g1 (by decide +kernel) R0)
  obtain ⟨Rn1, ev⟩ := st_come K.1 R1 g1 P1 g2 P2
  refine mi_l_stepsK cx mi_sL21 2 _ (1494, [(3, .int v), (2, .ref 116), (1, .ref 0), (0, .ref mi_RO)], [], (149, 5163), ks i2 a2 q2 r2) (by rfl) ?_
  exact k _ _ _ _ ⟨K2, Rn0, Rn1⟩
set_option maxRecDepth 100000 in
set_option maxHeartbeats 4000000 in
theorem ml_evening (cx : mi_CxL p s m c b ra cT D xl) {v : Int32} {i : Nat → Int32} {a : Nat → List Int32} {q : Nat → List Int64} {r : Nat → Nat}  (K : kAl i a q r) (k : ∀ i a q r, kAl i a q r → mi_LW p l e s m below meth c b ra cT D (1494, [(3, .int v), (2, .ref 116), (1, .ref 0), (0, .ref mi_RO)], [], (149, 5163), ks i a q r))  : mi_LW p l e s m below meth c b ra cT D (973, [(3, .int v), (2, .ref 116), (1, .ref 0), (0, .ref mi_RO)], [], (149, 5163), ks i a q r) := by
  obtain ⟨K, R0, R1⟩ := K
  refine mi_l_stepsK cx mi_sL22 1 _ (974, [(3, .int v), (2, .ref 116), (1, .ref 0), (0, .ref mi_RO)], [.ref 0], (149, 5163), ks i a q r) (by rfl) ?_
  refine mi_l_callI cx (pc := 974) (ls := [(3, .int v), (2, .ref 116), (1, .ref 0), (0, .ref mi_RO)]) (st := [.ref 0]) (h := ks i a q r) (i := (.invokevirtual 102, 3, 103, 0, 9, 0, 282)) (mi_sL22 _ _ (by rfl)) (by rfl) (cy := mi_c103) rfl rfl (ke103_0 K.1.1 K.1.2 ) (Nat.le_of_ble_eq_true rfl) ?_
  intro u1 i1 a1 q1 r1 g1 P1
  have g1I := g1.I
  have g1R := g1.R
  have KU1 := kAll_fr g1 (by decide +kernel) K
  refine mi_l_stepsK cx mi_sL22 2 _ (979, [(3, .int v), (2, .ref 116), (1, .ref 0), (0, .ref mi_RO)], [.ref 116], (149, 5163), ks i1 a1 q1 r1) (by rfl) ?_
  refine mi_l_callI cx (pc := 979) (ls := [(3, .int v), (2, .ref 116), (1, .ref 0), (0, .ref mi_RO)]) (st := [.ref 116]) (h := ks i1 a1 q1 r1) (i := (.invokevirtual 105, 3, 203, 0, 9, 0, 456)) (mi_sL22 _ _ (by rfl)) (by rfl) (cy := mi_c203) rfl rfl (ke203_116 g1I g1R ) (Nat.le_of_ble_eq_true rfl) ?_
  intro u2 i2 a2 q2 r2 g2 P2
  have K2 := kAll_fr g2 (by decide +kernel) KU1
  have Rn0 := kTB_fr g2 (by decide +kernel) (kTB_fr g1 (by decide +kernel) R0)
  obtain ⟨Rn1, ev⟩ := st_even K.1 R1 g1 P1 g2 P2
  refine mi_l_stepsK cx mi_sL22 2 _ (1494, [(3, .int v), (2, .ref 116), (1, .ref 0), (0, .ref mi_RO)], [], (149, 5163), ks i2 a2 q2 r2) (by rfl) ?_
  exact k _ _ _ _ ⟨K2, Rn0, Rn1⟩
set_option maxRecDepth 100000 in
set_option maxHeartbeats 4000000 in
theorem ml_gives (cx : mi_CxL p s m c b ra cT D xl) {v : Int32} {i : Nat → Int32} {a : Nat → List Int32} {q : Nat → List Int64} {r : Nat → Nat} {x1 : Int32} {x2 : Int32} {x3 : Int32} (K : kAl i a q r) (k : ∀ i a q r, kAl i a q r → mi_LW p l e s m below meth c b ra cT D (1494, [(3, .int v), (2, .ref 116), (1, .ref 0), (0, .ref mi_RO)], [], (149, 5163), ks i a q r)) (A1 : kArg xl (v + 1) x1) (A2 : kArg xl (v + 2) x2) (A3 : kArg xl (v + 3) x3) : mi_LW p l e s m below meth c b ra cT D (986, [(3, .int v), (2, .ref 116), (1, .ref 0), (0, .ref mi_RO)], [], (149, 5163), ks i a q r) := by
  obtain ⟨K, R0, R1⟩ := K
  refine mi_l_stepsK cx mi_sL23 5 _ (991, [(3, .int v), (2, .ref 116), (1, .ref 0), (0, .ref mi_RO)], [.int (v + 1), .ref mi_RO, .ref 0], (149, 5163), ks i a q r) (by rfl) ?_
  refine mi_l_iald cx (ax := (0, 0, 0, 0, 0)) (mi_sL23 _ _ (by rfl)) A1 ?_
  refine mi_l_stepsK cx mi_sL23 4 _ (996, [(3, .int v), (2, .ref 116), (1, .ref 0), (0, .ref mi_RO)], [.int (v + 2), .ref mi_RO, .int x1, .ref 0], (149, 5163), ks i a q r) (by rfl) ?_
  refine mi_l_iald cx (ax := (0, 0, 0, 0, 0)) (mi_sL23 _ _ (by rfl)) A2 ?_
  refine mi_l_stepsK cx mi_sL23 4 _ (1001, [(3, .int v), (2, .ref 116), (1, .ref 0), (0, .ref mi_RO)], [.int (v + 3), .ref mi_RO, .int x2, .int x1, .ref 0], (149, 5163), ks i a q r) (by rfl) ?_
  refine mi_l_iald cx (ax := (0, 0, 0, 0, 0)) (mi_sL23 _ _ (by rfl)) A3 ?_
  refine mi_l_callI cx (pc := 1002) (ls := [(3, .int v), (2, .ref 116), (1, .ref 0), (0, .ref mi_RO)]) (st := [.int x3, .int x2, .int x1, .ref 0]) (h := ks i a q r) (i := (.invokevirtual 106, 3, 104, 0, 9, 0, 284)) (mi_sL23 _ _ (by rfl)) (by rfl) (cy := mi_c104) rfl rfl (ke104_0 K.1.1 K.1.2 x1 x2 x3) (Nat.le_of_ble_eq_true rfl) ?_
  intro u1 i1 a1 q1 r1 g1 P1
  have g1I := g1.I
  have g1R := g1.R
  have KU1 := kAll_fr g1 (by decide +kernel) K
  refine mi_l_stepsK cx mi_sL23 6 _ (1011, [(3, .int v), (2, .ref 116), (1, .ref 0), (0, .ref mi_RO)], [.int (v + 1), .ref mi_RO, .ref 116], (149, 5163), ks i1 a1 q1 r1) (by rfl) ?_
  refine mi_l_iald cx (ax := (0, 0, 0, 0, 0)) (mi_sL23 _ _ (by rfl)) A1 ?_
  refine mi_l_stepsK cx mi_sL23 4 _ (1016, [(3, .int v), (2, .ref 116), (1, .ref 0), (0, .ref mi_RO)], [.int (v + 2), .ref mi_RO, .int x1, .ref 116], (149, 5163), ks i1 a1 q1 r1) (by rfl) ?_
  refine mi_l_iald cx (ax := (0, 0, 0, 0, 0)) (mi_sL23 _ _ (by rfl)) A2 ?_
  refine mi_l_stepsK cx mi_sL23 4 _ (1021, [(3, .int v), (2, .ref 116), (1, .ref 0), (0, .ref mi_RO)], [.int (v + 3), .ref mi_RO, .int x2, .int x1, .ref 116], (149, 5163), ks i1 a1 q1 r1) (by rfl) ?_
  refine mi_l_iald cx (ax := (0, 0, 0, 0, 0)) (mi_sL23 _ _ (by rfl)) A3 ?_
  refine mi_l_callI cx (pc := 1022) (ls := [(3, .int v), (2, .ref 116), (1, .ref 0), (0, .ref mi_RO)]) (st := [.int x3, .int x2, .int x1, .ref 116]) (h := ks i1 a1 q1 r1) (i := (.invokevirtual 109, 3, 204, 0, 9, 0, 457)) (mi_sL23 _ _ (by rfl)) (by rfl) (cy := mi_c204) rfl rfl (ke204_116 g1I g1R x1 x2 x3) (Nat.le_of_ble_eq_true rfl) ?_
  intro u2 i2 a2 q2 r2 g2 P2
  have K2 := kAll_fr g2 (by decide +kernel) KU1
  have Rn0 := kTB_fr g2 (by decide +kernel) (kTB_fr g1 (by decide +kernel) R0)
  obtain ⟨Rn1, ev⟩ := st_give K.1 R1 g1 P1 g2 P2
  refine mi_l_stepsK cx mi_sL23 2 _ (1494, [(3, .int v), (2, .ref 116), (1, .ref 0), (0, .ref mi_RO)], [], (149, 5163), ks i2 a2 q2 r2) (by rfl) ?_
  exact k _ _ _ _ ⟨K2, Rn0, Rn1⟩
set_option maxRecDepth 100000 in
set_option maxHeartbeats 4000000 in
theorem ml_led (cx : mi_CxL p s m c b ra cT D xl) {v : Int32} {i : Nat → Int32} {a : Nat → List Int32} {q : Nat → List Int64} {r : Nat → Nat} {x1 : Int32} (K : kAl i a q r) (k : ∀ i a q r, kAl i a q r → mi_LW p l e s m below meth c b ra cT D (1494, [(3, .int v), (2, .ref 116), (1, .ref 0), (0, .ref mi_RO)], [], (149, 5163), ks i a q r)) (A1 : kArg xl (v + 1) x1) : mi_LW p l e s m below meth c b ra cT D (1029, [(3, .int v), (2, .ref 116), (1, .ref 0), (0, .ref mi_RO)], [], (149, 5163), ks i a q r) := by
  obtain ⟨K, R0, R1⟩ := K
  refine mi_l_stepsK cx mi_sL24 5 _ (1034, [(3, .int v), (2, .ref 116), (1, .ref 0), (0, .ref mi_RO)], [.int (v + 1), .ref mi_RO, .ref 0], (149, 5163), ks i a q r) (by rfl) ?_
  refine mi_l_iald cx (ax := (0, 0, 0, 0, 0)) (mi_sL24 _ _ (by rfl)) A1 ?_
  refine mi_l_callPI cx (pc := 1035) (ls := [(3, .int v), (2, .ref 116), (1, .ref 0), (0, .ref mi_RO)]) (st := [.int x1, .ref 0]) (h := ks i a q r) (i := (.invokevirtual 110, 3, 105, 0, 9, 0, 286)) (mi_sL24 _ _ (by rfl)) (by rfl) (cy := mi_c105) rfl rfl (ke105_0 K.1.1 K.1.2 x1) (Nat.le_of_ble_eq_true rfl) ?_
  intro u1 P1
  have g1I := K.1.1
  have g1R := K.1.2
  have KU1 := K
  refine mi_l_stepsK cx mi_sL24 6 _ (1044, [(3, .int v), (2, .ref 116), (1, .ref 0), (0, .ref mi_RO)], [.int (v + 1), .ref mi_RO, .ref 116], (149, 5163), ks i a q r) (by rfl) ?_
  refine mi_l_iald cx (ax := (0, 0, 0, 0, 0)) (mi_sL24 _ _ (by rfl)) A1 ?_
  refine mi_l_callPI cx (pc := 1045) (ls := [(3, .int v), (2, .ref 116), (1, .ref 0), (0, .ref mi_RO)]) (st := [.int x1, .ref 116]) (h := ks i a q r) (i := (.invokevirtual 113, 3, 205, 0, 9, 0, 458)) (mi_sL24 _ _ (by rfl)) (by rfl) (cy := mi_c205) rfl rfl (ke205_116 g1I g1R x1) (Nat.le_of_ble_eq_true rfl) ?_
  intro u2 P2
  refine mi_l_stepsK cx mi_sL24 2 _ (1494, [(3, .int v), (2, .ref 116), (1, .ref 0), (0, .ref mi_RO)], [], (149, 5163), ks i a q r) (by rfl) ?_
  exact k _ _ _ _ ⟨K, R0, R1⟩
set_option maxRecDepth 100000 in
set_option maxHeartbeats 4000000 in
theorem ml_image (cx : mi_CxL p s m c b ra cT D xl) {v : Int32} {i : Nat → Int32} {a : Nat → List Int32} {q : Nat → List Int64} {r : Nat → Nat}  (K : kAl i a q r) (k : ∀ i a q r, kAl i a q r → mi_LW p l e s m below meth c b ra cT D (1494, [(3, .int v), (2, .ref 116), (1, .ref 0), (0, .ref mi_RO)], [], (149, 5163), ks i a q r))  : mi_LW p l e s m below meth c b ra cT D (1052, [(3, .int v), (2, .ref 116), (1, .ref 0), (0, .ref mi_RO)], [], (149, 5163), ks i a q r) := by
  obtain ⟨K, R0, R1⟩ := K
  refine mi_l_stepsK cx mi_sL25 1 _ (1053, [(3, .int v), (2, .ref 116), (1, .ref 0), (0, .ref mi_RO)], [.ref 0], (149, 5163), ks i a q r) (by rfl) ?_
  refine mi_l_callI cx (pc := 1053) (ls := [(3, .int v), (2, .ref 116), (1, .ref 0), (0, .ref mi_RO)]) (st := [.ref 0]) (h := ks i a q r) (i := (.invokevirtual 114, 3, 106, 0, 9, 0, 287)) (mi_sL25 _ _ (by rfl)) (by rfl) (cy := mi_c106) rfl rfl (ke106_0 K.1.1 K.1.2 ) (Nat.le_of_ble_eq_true rfl) ?_
  intro u1 i1 a1 q1 r1 g1 P1
  have g1I := g1.I
  have g1R := g1.R
  have KU1 := kAll_fr g1 (by decide +kernel) K
  refine mi_l_stepsK cx mi_sL25 2 _ (1058, [(3, .int v), (2, .ref 116), (1, .ref 0), (0, .ref mi_RO)], [.ref 116], (149, 5163), ks i1 a1 q1 r1) (by rfl) ?_
  refine mi_l_callI cx (pc := 1058) (ls := [(3, .int v), (2, .ref 116), (1, .ref 0), (0, .ref mi_RO)]) (st := [.ref 116]) (h := ks i1 a1 q1 r1) (i := (.invokevirtual 117, 3, 206, 0, 9, 0, 459)) (mi_sL25 _ _ (by rfl)) (by rfl) (cy := mi_c206) rfl rfl (ke206_116 g1I g1R ) (Nat.le_of_ble_eq_true rfl) ?_
  intro u2 i2 a2 q2 r2 g2 P2
  have K2 := kAll_fr g2 (by decide +kernel) KU1
  have Rn0 := kTB_fr g2 (by decide +kernel) (kTB_fr g1 (by decide +kernel) R0)
  obtain ⟨Rn1, ev⟩ := st_img K.1 R1 g1 P1 g2 P2
  refine mi_l_stepsK cx mi_sL25 2 _ (1494, [(3, .int v), (2, .ref 116), (1, .ref 0), (0, .ref mi_RO)], [], (149, 5163), ks i2 a2 q2 r2) (by rfl) ?_
  exact k _ _ _ _ ⟨K2, Rn0, Rn1⟩
set_option maxRecDepth 100000 in
set_option maxHeartbeats 4000000 in
theorem ml_back (cx : mi_CxL p s m c b ra cT D xl) {v : Int32} {i : Nat → Int32} {a : Nat → List Int32} {q : Nat → List Int64} {r : Nat → Nat}  (K : kAl i a q r) (k : ∀ i a q r, kAl i a q r → mi_LW p l e s m below meth c b ra cT D (1494, [(3, .int v), (2, .ref 116), (1, .ref 0), (0, .ref mi_RO)], [], (149, 5163), ks i a q r))  : mi_LW p l e s m below meth c b ra cT D (1065, [(3, .int v), (2, .ref 116), (1, .ref 0), (0, .ref mi_RO)], [], (149, 5163), ks i a q r) := by
  obtain ⟨K, R0, R1⟩ := K
  refine mi_l_stepsK cx mi_sL26 1 _ (1066, [(3, .int v), (2, .ref 116), (1, .ref 0), (0, .ref mi_RO)], [.ref 0], (149, 5163), ks i a q r) (by rfl) ?_
  refine mi_l_callI cx (pc := 1066) (ls := [(3, .int v), (2, .ref 116), (1, .ref 0), (0, .ref mi_RO)]) (st := [.ref 0]) (h := ks i a q r) (i := (.invokevirtual 118, 3, 107, 0, 9, 0, 289)) (mi_sL26 _ _ (by rfl)) (by rfl) (cy := mi_c107) rfl rfl (ke107_0 K.1.1 K.1.2 ) (Nat.le_of_ble_eq_true rfl) ?_
  intro u1 i1 a1 q1 r1 g1 P1
  have g1I := g1.I
  have g1R := g1.R
  have KU1 := kAll_fr g1 (by decide +kernel) K
  refine mi_l_stepsK cx mi_sL26 2 _ (1071, [(3, .int v), (2, .ref 116), (1, .ref 0), (0, .ref mi_RO)], [.ref 116], (149, 5163), ks i1 a1 q1 r1) (by rfl) ?_
  refine mi_l_callI cx (pc := 1071) (ls := [(3, .int v), (2, .ref 116), (1, .ref 0), (0, .ref mi_RO)]) (st := [.ref 116]) (h := ks i1 a1 q1 r1) (i := (.invokevirtual 121, 3, 207, 0, 9, 0, 460)) (mi_sL26 _ _ (by rfl)) (by rfl) (cy := mi_c207) rfl rfl (ke207_116 g1I g1R ) (Nat.le_of_ble_eq_true rfl) ?_
  intro u2 i2 a2 q2 r2 g2 P2
  have K2 := kAll_fr g2 (by decide +kernel) KU1
  have Rn0 := kTB_fr g2 (by decide +kernel) (kTB_fr g1 (by decide +kernel) R0)
  obtain ⟨Rn1, ev⟩ := st_back K.1 R1 g1 P1 g2 P2
  refine mi_l_stepsK cx mi_sL26 2 _ (1494, [(3, .int v), (2, .ref 116), (1, .ref 0), (0, .ref mi_RO)], [], (149, 5163), ks i2 a2 q2 r2) (by rfl) ?_
  exact k _ _ _ _ ⟨K2, Rn0, Rn1⟩
set_option maxRecDepth 100000 in
set_option maxHeartbeats 4000000 in
theorem ml_undo (cx : mi_CxL p s m c b ra cT D xl) {v : Int32} {i : Nat → Int32} {a : Nat → List Int32} {q : Nat → List Int64} {r : Nat → Nat}  (K : kAl i a q r) (k : ∀ i a q r, kAl i a q r → mi_LW p l e s m below meth c b ra cT D (1494, [(3, .int v), (2, .ref 116), (1, .ref 0), (0, .ref mi_RO)], [], (149, 5163), ks i a q r))  : mi_LW p l e s m below meth c b ra cT D (1078, [(3, .int v), (2, .ref 116), (1, .ref 0), (0, .ref mi_RO)], [], (149, 5163), ks i a q r) := by
  obtain ⟨K, R0, R1⟩ := K
  refine mi_l_stepsK cx mi_sL27 1 _ (1079, [(3, .int v), (2, .ref 116), (1, .ref 0), (0, .ref mi_RO)], [.ref 0], (149, 5163), ks i a q r) (by rfl) ?_
  refine mi_l_callI cx (pc := 1079) (ls := [(3, .int v), (2, .ref 116), (1, .ref 0), (0, .ref mi_RO)]) (st := [.ref 0]) (h := ks i a q r) (i := (.invokevirtual 122, 3, 108, 0, 9, 0, 290)) (mi_sL27 _ _ (by rfl)) (by rfl) (cy := mi_c108) rfl rfl (ke108_0 K.1.1 K.1.2 ) (Nat.le_of_ble_eq_true rfl) ?_
  intro u1 i1 a1 q1 r1 g1 P1
  have g1I := g1.I
  have g1R := g1.R
  have KU1 := kAll_fr g1 (by decide +kernel) K
  refine mi_l_stepsK cx mi_sL27 2 _ (1084, [(3, .int v), (2, .ref 116), (1, .ref 0), (0, .ref mi_RO)], [.ref 116], (149, 5163), ks i1 a1 q1 r1) (by rfl) ?_
  refine mi_l_callI cx (pc := 1084) (ls := [(3, .int v), (2, .ref 116), (1, .ref 0), (0, .ref mi_RO)]) (st := [.ref 116]) (h := ks i1 a1 q1 r1) (i := (.invokevirtual 125, 3, 144, 0, 9, 0, 392)) (mi_sL27 _ _ (by rfl)) (by rfl) (cy := mi_c144) rfl rfl (ke144_116 g1I g1R (KU1.2.1.2.2.2) (KU1.2.1.2.2.1)) (Nat.le_of_ble_eq_true rfl) ?_
  intro u2 i2 a2 q2 r2 g2 P2
  have K2 := kAll_chg g2 (by decide +kernel) (kChg_of KU1.2.1.2.2.1 (g2.fa 133 rfl)) P2.1 KU1
  have Rn0 := kTB_fr g2 (by decide +kernel) (kTB_fr g1 (by decide +kernel) R0)
  obtain ⟨Rn1, ev⟩ := st_undo K.1 R1 g1 P1 g2 P2
  refine mi_l_stepsK cx mi_sL27 2 _ (1494, [(3, .int v), (2, .ref 116), (1, .ref 0), (0, .ref mi_RO)], [], (149, 5163), ks i2 a2 q2 r2) (by rfl) ?_
  exact k _ _ _ _ ⟨K2, Rn0, Rn1⟩
set_option maxRecDepth 100000 in
set_option maxHeartbeats 4000000 in
theorem ml_redo (cx : mi_CxL p s m c b ra cT D xl) {v : Int32} {i : Nat → Int32} {a : Nat → List Int32} {q : Nat → List Int64} {r : Nat → Nat}  (K : kAl i a q r) (k : ∀ i a q r, kAl i a q r → mi_LW p l e s m below meth c b ra cT D (1494, [(3, .int v), (2, .ref 116), (1, .ref 0), (0, .ref mi_RO)], [], (149, 5163), ks i a q r))  : mi_LW p l e s m below meth c b ra cT D (1091, [(3, .int v), (2, .ref 116), (1, .ref 0), (0, .ref mi_RO)], [], (149, 5163), ks i a q r) := by
  obtain ⟨K, R0, R1⟩ := K
  refine mi_l_stepsK cx mi_sL28 1 _ (1092, [(3, .int v), (2, .ref 116), (1, .ref 0), (0, .ref mi_RO)], [.ref 0], (149, 5163), ks i a q r) (by rfl) ?_
  refine mi_l_callI cx (pc := 1092) (ls := [(3, .int v), (2, .ref 116), (1, .ref 0), (0, .ref mi_RO)]) (st := [.ref 0]) (h := ks i a q r) (i := (.invokevirtual 126, 3, 109, 0, 9, 0, 291)) (mi_sL28 _ _ (by rfl)) (by rfl) (cy := mi_c109) rfl rfl (ke109_0 K.1.1 K.1.2 ) (Nat.le_of_ble_eq_true rfl) ?_
  intro u1 i1 a1 q1 r1 g1 P1
  have g1I := g1.I
  have g1R := g1.R
  have KU1 := kAll_fr g1 (by decide +kernel) K
  refine mi_l_stepsK cx mi_sL28 2 _ (1097, [(3, .int v), (2, .ref 116), (1, .ref 0), (0, .ref mi_RO)], [.ref 116], (149, 5163), ks i1 a1 q1 r1) (by rfl) ?_
  refine mi_l_callI cx (pc := 1097) (ls := [(3, .int v), (2, .ref 116), (1, .ref 0), (0, .ref mi_RO)]) (st := [.ref 116]) (h := ks i1 a1 q1 r1) (i := (.invokevirtual 129, 3, 145, 0, 9, 0, 393)) (mi_sL28 _ _ (by rfl)) (by rfl) (cy := mi_c145) rfl rfl (ke145_116 g1I g1R (KU1.2.1.2.2.2) (KU1.2.1.2.2.1)) (Nat.le_of_ble_eq_true rfl) ?_
  intro u2 i2 a2 q2 r2 g2 P2
  have K2 := kAll_chg g2 (by decide +kernel) (kChg_of KU1.2.1.2.2.1 (g2.fa 133 rfl)) P2.1 KU1
  have Rn0 := kTB_fr g2 (by decide +kernel) (kTB_fr g1 (by decide +kernel) R0)
  obtain ⟨Rn1, ev⟩ := st_redo K.1 R1 g1 P1 g2 P2
  refine mi_l_stepsK cx mi_sL28 2 _ (1494, [(3, .int v), (2, .ref 116), (1, .ref 0), (0, .ref mi_RO)], [], (149, 5163), ks i2 a2 q2 r2) (by rfl) ?_
  exact k _ _ _ _ ⟨K2, Rn0, Rn1⟩
set_option maxRecDepth 100000 in
set_option maxHeartbeats 4000000 in
theorem ml_body (cx : mi_CxL p s m c b ra cT D xl) {v : Int32} {i : Nat → Int32} {a : Nat → List Int32} {q : Nat → List Int64} {r : Nat → Nat} {x1 : Int32} (K : kAl i a q r) (k : ∀ i a q r, kAl i a q r → mi_LW p l e s m below meth c b ra cT D (1494, [(3, .int v), (2, .ref 116), (1, .ref 0), (0, .ref mi_RO)], [], (149, 5163), ks i a q r)) (A1 : kArg xl (v + 1) x1) : mi_LW p l e s m below meth c b ra cT D (1104, [(3, .int v), (2, .ref 116), (1, .ref 0), (0, .ref mi_RO)], [], (149, 5163), ks i a q r) := by
  obtain ⟨K, R0, R1⟩ := K
  refine mi_l_stepsK cx mi_sL29 5 _ (1109, [(3, .int v), (2, .ref 116), (1, .ref 0), (0, .ref mi_RO)], [.int (v + 1), .ref mi_RO, .ref 0], (149, 5163), ks i a q r) (by rfl) ?_
  refine mi_l_iald cx (ax := (0, 0, 0, 0, 0)) (mi_sL29 _ _ (by rfl)) A1 ?_
  refine mi_l_callI cx (pc := 1110) (ls := [(3, .int v), (2, .ref 116), (1, .ref 0), (0, .ref mi_RO)]) (st := [.int x1, .ref 0]) (h := ks i a q r) (i := (.invokevirtual 130, 3, 110, 0, 9, 0, 292)) (mi_sL29 _ _ (by rfl)) (by rfl) (cy := mi_c110) rfl rfl (kd110_0 K.1.1 K.1.2 x1) (Nat.le_of_ble_eq_true rfl) ?_
  intro u1 i1 a1 q1 r1 g1 P1
  have g1I := g1.I
  have g1R := g1.R
  refine mi_l_stepsK cx mi_sL29 6 _ (1119, [(3, .int v), (2, .ref 116), (1, .ref 0), (0, .ref mi_RO)], [.int (v + 1), .ref mi_RO, .ref 116], (149, 5163), ks i1 a1 q1 r1) (by rfl) ?_
  refine mi_l_iald cx (ax := (0, 0, 0, 0, 0)) (mi_sL29 _ _ (by rfl)) A1 ?_
  refine mi_l_callI cx (pc := 1120) (ls := [(3, .int v), (2, .ref 116), (1, .ref 0), (0, .ref mi_RO)]) (st := [.int x1, .ref 116]) (h := ks i1 a1 q1 r1) (i := (.invokevirtual 133, 3, 214, 0, 9, 0, 461)) (mi_sL29 _ _ (by rfl)) (by rfl) (cy := mi_c214) rfl rfl (kd214_116 g1I g1R x1) (Nat.le_of_ble_eq_true rfl) ?_
  intro u2 i2 a2 q2 r2 g2 P2
  obtain ⟨K2, ev⟩ := st_body K g1 P1 g2 P2
  have Rn0 := kTB_fr g2 (by decide +kernel) (kTB_fr g1 (by decide +kernel) R0)
  have Rn1 := kMar_fr g2 (by decide +kernel) (g2.fa 118 rfl) (g2.fa 117 rfl) (g2.fi 7426 rfl) g1.R (kMar_fr g1 (by decide +kernel) (g1.fa 118 rfl) (g1.fa 117 rfl) (g1.fi 7426 rfl) K.1.2 R1)
  refine mi_l_stepsK cx mi_sL29 2 _ (1494, [(3, .int v), (2, .ref 116), (1, .ref 0), (0, .ref mi_RO)], [], (149, 5163), ks i2 a2 q2 r2) (by rfl) ?_
  exact k _ _ _ _ ⟨K2, Rn0, Rn1⟩
set_option maxRecDepth 100000 in
set_option maxHeartbeats 4000000 in
theorem ml_act (cx : mi_CxL p s m c b ra cT D xl) {v : Int32} {i : Nat → Int32} {a : Nat → List Int32} {q : Nat → List Int64} {r : Nat → Nat} {x1 : Int32} {x2 : Int32} {x3 : Int32} (K : kAl i a q r) (k : ∀ i a q r, kAl i a q r → mi_LW p l e s m below meth c b ra cT D (1494, [(3, .int v), (2, .ref 116), (1, .ref 0), (0, .ref mi_RO)], [], (149, 5163), ks i a q r)) (A1 : kArg xl (v + 1) x1) (A2 : kArg xl (v + 2) x2) (A3 : kArg xl (v + 3) x3) : mi_LW p l e s m below meth c b ra cT D (1127, [(3, .int v), (2, .ref 116), (1, .ref 0), (0, .ref mi_RO)], [], (149, 5163), ks i a q r) := by
  obtain ⟨K, R0, R1⟩ := K
  refine mi_l_stepsK cx mi_sL30 5 _ (1132, [(3, .int v), (2, .ref 116), (1, .ref 0), (0, .ref mi_RO)], [.int (v + 1), .ref mi_RO, .ref 0], (149, 5163), ks i a q r) (by rfl) ?_
  refine mi_l_iald cx (ax := (0, 0, 0, 0, 0)) (mi_sL30 _ _ (by rfl)) A1 ?_
  refine mi_l_stepsK cx mi_sL30 4 _ (1137, [(3, .int v), (2, .ref 116), (1, .ref 0), (0, .ref mi_RO)], [.int (v + 2), .ref mi_RO, .int x1, .ref 0], (149, 5163), ks i a q r) (by rfl) ?_
  refine mi_l_iald cx (ax := (0, 0, 0, 0, 0)) (mi_sL30 _ _ (by rfl)) A2 ?_
  refine mi_l_stepsK cx mi_sL30 4 _ (1142, [(3, .int v), (2, .ref 116), (1, .ref 0), (0, .ref mi_RO)], [.int (v + 3), .ref mi_RO, .int x2, .int x1, .ref 0], (149, 5163), ks i a q r) (by rfl) ?_
  refine mi_l_iald cx (ax := (0, 0, 0, 0, 0)) (mi_sL30 _ _ (by rfl)) A3 ?_
  refine mi_l_callI cx (pc := 1143) (ls := [(3, .int v), (2, .ref 116), (1, .ref 0), (0, .ref mi_RO)]) (st := [.int x3, .int x2, .int x1, .ref 0]) (h := ks i a q r) (i := (.invokevirtual 134, 3, 111, 0, 9, 0, 294)) (mi_sL30 _ _ (by rfl)) (by rfl) (cy := mi_c111) rfl rfl (kc111_0 K.1.1 K.1.2 x1 x2 x3) (Nat.le_of_ble_eq_true rfl) ?_
  intro u1 i1 a1 q1 r1 g1 P1
  have g1I := g1.I
  have g1R := g1.R
  have KU1 := kAll_fr g1 (by decide +kernel) K
  refine mi_l_stepsK cx mi_sL30 6 _ (1152, [(3, .int v), (2, .ref 116), (1, .ref 0), (0, .ref mi_RO)], [.int (v + 1), .ref mi_RO, .ref 116], (149, 5163), ks i1 a1 q1 r1) (by rfl) ?_
  refine mi_l_iald cx (ax := (0, 0, 0, 0, 0)) (mi_sL30 _ _ (by rfl)) A1 ?_
  refine mi_l_stepsK cx mi_sL30 4 _ (1157, [(3, .int v), (2, .ref 116), (1, .ref 0), (0, .ref mi_RO)], [.int (v + 2), .ref mi_RO, .int x1, .ref 116], (149, 5163), ks i1 a1 q1 r1) (by rfl) ?_
  refine mi_l_iald cx (ax := (0, 0, 0, 0, 0)) (mi_sL30 _ _ (by rfl)) A2 ?_
  refine mi_l_stepsK cx mi_sL30 4 _ (1162, [(3, .int v), (2, .ref 116), (1, .ref 0), (0, .ref mi_RO)], [.int (v + 3), .ref mi_RO, .int x2, .int x1, .ref 116], (149, 5163), ks i1 a1 q1 r1) (by rfl) ?_
  refine mi_l_iald cx (ax := (0, 0, 0, 0, 0)) (mi_sL30 _ _ (by rfl)) A3 ?_
  refine mi_l_callI cx (pc := 1163) (ls := [(3, .int v), (2, .ref 116), (1, .ref 0), (0, .ref mi_RO)]) (st := [.int x3, .int x2, .int x1, .ref 116]) (h := ks i1 a1 q1 r1) (i := (.invokevirtual 137, 3, 215, 0, 9, 0, 462)) (mi_sL30 _ _ (by rfl)) (by rfl) (cy := mi_c215) rfl rfl (kc215_116 g1I g1R x1 x2 x3) (Nat.le_of_ble_eq_true rfl) ?_
  intro u2 i2 a2 q2 r2 g2 P2
  have K2 := kAll_fr g2 (by decide +kernel) KU1
  have Rn0 := kTB_fr g2 (by decide +kernel) (kTB_fr g1 (by decide +kernel) R0)
  have Rn1 := kMar_fr g2 (by decide +kernel) (g2.fa 118 rfl) (g2.fa 117 rfl) (g2.fi 7426 rfl) g1.R (kMar_fr g1 (by decide +kernel) (g1.fa 118 rfl) (g1.fa 117 rfl) (g1.fi 7426 rfl) K.1.2 R1)
  refine mi_l_stepsK cx mi_sL30 2 _ (1494, [(3, .int v), (2, .ref 116), (1, .ref 0), (0, .ref mi_RO)], [], (149, 5163), ks i2 a2 q2 r2) (by rfl) ?_
  exact k _ _ _ _ ⟨K2, Rn0, Rn1⟩
set_option maxRecDepth 100000 in
set_option maxHeartbeats 4000000 in
theorem ml_trace (cx : mi_CxL p s m c b ra cT D xl) {v : Int32} {i : Nat → Int32} {a : Nat → List Int32} {q : Nat → List Int64} {r : Nat → Nat} {x1 : Int32} (K : kAl i a q r) (k : ∀ i a q r, kAl i a q r → mi_LW p l e s m below meth c b ra cT D (1494, [(3, .int v), (2, .ref 116), (1, .ref 0), (0, .ref mi_RO)], [], (149, 5163), ks i a q r)) (A1 : kArg xl (v + 1) x1) : mi_LW p l e s m below meth c b ra cT D (1170, [(3, .int v), (2, .ref 116), (1, .ref 0), (0, .ref mi_RO)], [], (149, 5163), ks i a q r) := by
  obtain ⟨K, R0, R1⟩ := K
  refine mi_l_stepsK cx mi_sL31 5 _ (1175, [(3, .int v), (2, .ref 116), (1, .ref 0), (0, .ref mi_RO)], [.int (v + 1), .ref mi_RO, .ref 0], (149, 5163), ks i a q r) (by rfl) ?_
  refine mi_l_iald cx (ax := (0, 0, 0, 0, 0)) (mi_sL31 _ _ (by rfl)) A1 ?_
  refine mi_l_callPI cx (pc := 1176) (ls := [(3, .int v), (2, .ref 116), (1, .ref 0), (0, .ref mi_RO)]) (st := [.int x1, .ref 0]) (h := ks i a q r) (i := (.invokevirtual 138, 3, 112, 0, 9, 0, 302)) (mi_sL31 _ _ (by rfl)) (by rfl) (cy := mi_c112) rfl rfl (kc112_0 K.1.1 K.1.2 x1) (Nat.le_of_ble_eq_true rfl) ?_
  intro u1 P1
  have g1I := K.1.1
  have g1R := K.1.2
  have KU1 := K
  refine mi_l_stepsK cx mi_sL31 6 _ (1185, [(3, .int v), (2, .ref 116), (1, .ref 0), (0, .ref mi_RO)], [.int (v + 1), .ref mi_RO, .ref 116], (149, 5163), ks i a q r) (by rfl) ?_
  refine mi_l_iald cx (ax := (0, 0, 0, 0, 0)) (mi_sL31 _ _ (by rfl)) A1 ?_
  refine mi_l_callPI cx (pc := 1186) (ls := [(3, .int v), (2, .ref 116), (1, .ref 0), (0, .ref mi_RO)]) (st := [.int x1, .ref 116]) (h := ks i a q r) (i := (.invokevirtual 141, 3, 216, 0, 9, 0, 469)) (mi_sL31 _ _ (by rfl)) (by rfl) (cy := mi_c216) rfl rfl (kc216_116 g1I g1R x1) (Nat.le_of_ble_eq_true rfl) ?_
  intro u2 P2
  refine mi_l_stepsK cx mi_sL31 2 _ (1494, [(3, .int v), (2, .ref 116), (1, .ref 0), (0, .ref mi_RO)], [], (149, 5163), ks i a q r) (by rfl) ?_
  exact k _ _ _ _ ⟨K, R0, R1⟩
set_option maxRecDepth 100000 in
set_option maxHeartbeats 4000000 in
theorem ml_keep (cx : mi_CxL p s m c b ra cT D xl) {v : Int32} {i : Nat → Int32} {a : Nat → List Int32} {q : Nat → List Int64} {r : Nat → Nat} {x1 : Int32} {x2 : Int32} (K : kAl i a q r) (k : ∀ i a q r, kAl i a q r → mi_LW p l e s m below meth c b ra cT D (1494, [(3, .int v), (2, .ref 116), (1, .ref 0), (0, .ref mi_RO)], [], (149, 5163), ks i a q r)) (A1 : kArg xl (v + 1) x1) (A2 : kArg xl (v + 2) x2) : mi_LW p l e s m below meth c b ra cT D (1193, [(3, .int v), (2, .ref 116), (1, .ref 0), (0, .ref mi_RO)], [], (149, 5163), ks i a q r) := by
  obtain ⟨K, R0, R1⟩ := K
  refine mi_l_stepsK cx mi_sL32 5 _ (1198, [(3, .int v), (2, .ref 116), (1, .ref 0), (0, .ref mi_RO)], [.int (v + 1), .ref mi_RO, .ref 0], (149, 5163), ks i a q r) (by rfl) ?_
  refine mi_l_iald cx (ax := (0, 0, 0, 0, 0)) (mi_sL32 _ _ (by rfl)) A1 ?_
  refine mi_l_stepsK cx mi_sL32 4 _ (1203, [(3, .int v), (2, .ref 116), (1, .ref 0), (0, .ref mi_RO)], [.int (v + 2), .ref mi_RO, .int x1, .ref 0], (149, 5163), ks i a q r) (by rfl) ?_
  refine mi_l_iald cx (ax := (0, 0, 0, 0, 0)) (mi_sL32 _ _ (by rfl)) A2 ?_
  refine mi_l_callI cx (pc := 1204) (ls := [(3, .int v), (2, .ref 116), (1, .ref 0), (0, .ref mi_RO)]) (st := [.int x2, .int x1, .ref 0]) (h := ks i a q r) (i := (.invokevirtual 142, 3, 113, 0, 9, 0, 303)) (mi_sL32 _ _ (by rfl)) (by rfl) (cy := mi_c113) rfl rfl (kd113_0 K.1.1 K.1.2 x1 x2) (Nat.le_of_ble_eq_true rfl) ?_
  intro u1 i1 a1 q1 r1 g1 P1
  have g1I := g1.I
  have g1R := g1.R
  refine mi_l_stepsK cx mi_sL32 6 _ (1213, [(3, .int v), (2, .ref 116), (1, .ref 0), (0, .ref mi_RO)], [.int (v + 1), .ref mi_RO, .ref 116], (149, 5163), ks i1 a1 q1 r1) (by rfl) ?_
  refine mi_l_iald cx (ax := (0, 0, 0, 0, 0)) (mi_sL32 _ _ (by rfl)) A1 ?_
  refine mi_l_stepsK cx mi_sL32 4 _ (1218, [(3, .int v), (2, .ref 116), (1, .ref 0), (0, .ref mi_RO)], [.int (v + 2), .ref mi_RO, .int x1, .ref 116], (149, 5163), ks i1 a1 q1 r1) (by rfl) ?_
  refine mi_l_iald cx (ax := (0, 0, 0, 0, 0)) (mi_sL32 _ _ (by rfl)) A2 ?_
  refine mi_l_callI cx (pc := 1219) (ls := [(3, .int v), (2, .ref 116), (1, .ref 0), (0, .ref mi_RO)]) (st := [.int x2, .int x1, .ref 116]) (h := ks i1 a1 q1 r1) (i := (.invokevirtual 145, 3, 217, 0, 9, 0, 470)) (mi_sL32 _ _ (by rfl)) (by rfl) (cy := mi_c217) rfl rfl (kd217_116 g1I g1R x1 x2) (Nat.le_of_ble_eq_true rfl) ?_
  intro u2 i2 a2 q2 r2 g2 P2
  obtain ⟨K2, ev⟩ := st_keep K g1 P1 g2 P2
  have Rn0 := kTB_fr g2 (by decide +kernel) (kTB_fr g1 (by decide +kernel) R0)
  have Rn1 := kMar_fr g2 (by decide +kernel) (g2.fa 118 rfl) (g2.fa 117 rfl) (g2.fi 7426 rfl) g1.R (kMar_fr g1 (by decide +kernel) (g1.fa 118 rfl) (g1.fa 117 rfl) (g1.fi 7426 rfl) K.1.2 R1)
  refine mi_l_stepsK cx mi_sL32 2 _ (1494, [(3, .int v), (2, .ref 116), (1, .ref 0), (0, .ref mi_RO)], [], (149, 5163), ks i2 a2 q2 r2) (by rfl) ?_
  exact k _ _ _ _ ⟨K2, Rn0, Rn1⟩
set_option maxRecDepth 100000 in
set_option maxHeartbeats 4000000 in
theorem ml_row (cx : mi_CxL p s m c b ra cT D xl) {v : Int32} {i : Nat → Int32} {a : Nat → List Int32} {q : Nat → List Int64} {r : Nat → Nat} {x1 : Int32} {x2 : Int32} {x3 : Int32} (K : kAl i a q r) (k : ∀ i a q r, kAl i a q r → mi_LW p l e s m below meth c b ra cT D (1494, [(3, .int v), (2, .ref 116), (1, .ref 0), (0, .ref mi_RO)], [], (149, 5163), ks i a q r)) (A1 : kArg xl (v + 1) x1) (A2 : kArg xl (v + 2) x2) (A3 : kArg xl (v + 3) x3) : mi_LW p l e s m below meth c b ra cT D (1226, [(3, .int v), (2, .ref 116), (1, .ref 0), (0, .ref mi_RO)], [], (149, 5163), ks i a q r) := by
  obtain ⟨K, R0, R1⟩ := K
  refine mi_l_stepsK cx mi_sL33 5 _ (1231, [(3, .int v), (2, .ref 116), (1, .ref 0), (0, .ref mi_RO)], [.int (v + 1), .ref mi_RO, .ref 0], (149, 5163), ks i a q r) (by rfl) ?_
  refine mi_l_iald cx (ax := (0, 0, 0, 0, 0)) (mi_sL33 _ _ (by rfl)) A1 ?_
  refine mi_l_stepsK cx mi_sL33 4 _ (1236, [(3, .int v), (2, .ref 116), (1, .ref 0), (0, .ref mi_RO)], [.int (v + 2), .ref mi_RO, .int x1, .ref 0], (149, 5163), ks i a q r) (by rfl) ?_
  refine mi_l_iald cx (ax := (0, 0, 0, 0, 0)) (mi_sL33 _ _ (by rfl)) A2 ?_
  refine mi_l_stepsK cx mi_sL33 4 _ (1241, [(3, .int v), (2, .ref 116), (1, .ref 0), (0, .ref mi_RO)], [.int (v + 3), .ref mi_RO, .int x2, .int x1, .ref 0], (149, 5163), ks i a q r) (by rfl) ?_
  refine mi_l_iald cx (ax := (0, 0, 0, 0, 0)) (mi_sL33 _ _ (by rfl)) A3 ?_
  refine mi_l_callI cx (pc := 1242) (ls := [(3, .int v), (2, .ref 116), (1, .ref 0), (0, .ref mi_RO)]) (st := [.int x3, .int x2, .int x1, .ref 0]) (h := ks i a q r) (i := (.invokevirtual 146, 3, 114, 0, 9, 0, 306)) (mi_sL33 _ _ (by rfl)) (by rfl) (cy := mi_c114) rfl rfl (kd114_0 K.1.1 K.1.2 x1 x2 x3) (Nat.le_of_ble_eq_true rfl) ?_
  intro u1 i1 a1 q1 r1 g1 P1
  have g1I := g1.I
  have g1R := g1.R
  refine mi_l_stepsK cx mi_sL33 6 _ (1251, [(3, .int v), (2, .ref 116), (1, .ref 0), (0, .ref mi_RO)], [.int (v + 1), .ref mi_RO, .ref 116], (149, 5163), ks i1 a1 q1 r1) (by rfl) ?_
  refine mi_l_iald cx (ax := (0, 0, 0, 0, 0)) (mi_sL33 _ _ (by rfl)) A1 ?_
  refine mi_l_stepsK cx mi_sL33 4 _ (1256, [(3, .int v), (2, .ref 116), (1, .ref 0), (0, .ref mi_RO)], [.int (v + 2), .ref mi_RO, .int x1, .ref 116], (149, 5163), ks i1 a1 q1 r1) (by rfl) ?_
  refine mi_l_iald cx (ax := (0, 0, 0, 0, 0)) (mi_sL33 _ _ (by rfl)) A2 ?_
  refine mi_l_stepsK cx mi_sL33 4 _ (1261, [(3, .int v), (2, .ref 116), (1, .ref 0), (0, .ref mi_RO)], [.int (v + 3), .ref mi_RO, .int x2, .int x1, .ref 116], (149, 5163), ks i1 a1 q1 r1) (by rfl) ?_
  refine mi_l_iald cx (ax := (0, 0, 0, 0, 0)) (mi_sL33 _ _ (by rfl)) A3 ?_
  refine mi_l_callI cx (pc := 1262) (ls := [(3, .int v), (2, .ref 116), (1, .ref 0), (0, .ref mi_RO)]) (st := [.int x3, .int x2, .int x1, .ref 116]) (h := ks i1 a1 q1 r1) (i := (.invokevirtual 149, 3, 218, 0, 9, 0, 471)) (mi_sL33 _ _ (by rfl)) (by rfl) (cy := mi_c218) rfl rfl (kd218_116 g1I g1R x1 x2 x3) (Nat.le_of_ble_eq_true rfl) ?_
  intro u2 i2 a2 q2 r2 g2 P2
  obtain ⟨K2, ev⟩ := st_row K g1 P1 g2 P2
  have Rn0 := kTB_fr g2 (by decide +kernel) (kTB_fr g1 (by decide +kernel) R0)
  have Rn1 := kMar_fr g2 (by decide +kernel) (g2.fa 118 rfl) (g2.fa 117 rfl) (g2.fi 7426 rfl) g1.R (kMar_fr g1 (by decide +kernel) (g1.fa 118 rfl) (g1.fa 117 rfl) (g1.fi 7426 rfl) K.1.2 R1)
  refine mi_l_stepsK cx mi_sL33 2 _ (1494, [(3, .int v), (2, .ref 116), (1, .ref 0), (0, .ref mi_RO)], [], (149, 5163), ks i2 a2 q2 r2) (by rfl) ?_
  exact k _ _ _ _ ⟨K2, Rn0, Rn1⟩
set_option maxRecDepth 100000 in
set_option maxHeartbeats 4000000 in
theorem ml_put (cx : mi_CxL p s m c b ra cT D xl) {v : Int32} {i : Nat → Int32} {a : Nat → List Int32} {q : Nat → List Int64} {r : Nat → Nat} {x1 : Int32} {x2 : Int32} {x3 : Int32} {x4 : Int32} (K : kAl i a q r) (k : ∀ i a q r, kAl i a q r → mi_LW p l e s m below meth c b ra cT D (1494, [(3, .int v), (2, .ref 116), (1, .ref 0), (0, .ref mi_RO)], [], (149, 5163), ks i a q r)) (A1 : kArg xl (v + 1) x1) (A2 : kArg xl (v + 2) x2) (A3 : kArg xl (v + 3) x3) (A4 : kArg xl (v + 4) x4) : mi_LW p l e s m below meth c b ra cT D (1269, [(3, .int v), (2, .ref 116), (1, .ref 0), (0, .ref mi_RO)], [], (149, 5163), ks i a q r) := by
  obtain ⟨K, R0, R1⟩ := K
  refine mi_l_stepsK cx mi_sL34 5 _ (1274, [(3, .int v), (2, .ref 116), (1, .ref 0), (0, .ref mi_RO)], [.int (v + 1), .ref mi_RO, .ref 0], (149, 5163), ks i a q r) (by rfl) ?_
  refine mi_l_iald cx (ax := (0, 0, 0, 0, 0)) (mi_sL34 _ _ (by rfl)) A1 ?_
  refine mi_l_stepsK cx mi_sL34 4 _ (1279, [(3, .int v), (2, .ref 116), (1, .ref 0), (0, .ref mi_RO)], [.int (v + 2), .ref mi_RO, .int x1, .ref 0], (149, 5163), ks i a q r) (by rfl) ?_
  refine mi_l_iald cx (ax := (0, 0, 0, 0, 0)) (mi_sL34 _ _ (by rfl)) A2 ?_
  refine mi_l_stepsK cx mi_sL34 4 _ (1284, [(3, .int v), (2, .ref 116), (1, .ref 0), (0, .ref mi_RO)], [.int (v + 3), .ref mi_RO, .int x2, .int x1, .ref 0], (149, 5163), ks i a q r) (by rfl) ?_
  refine mi_l_iald cx (ax := (0, 0, 0, 0, 0)) (mi_sL34 _ _ (by rfl)) A3 ?_
  refine mi_l_stepsK cx mi_sL34 7 _ (1293, [(3, .int v), (2, .ref 116), (1, .ref 0), (0, .ref mi_RO)], [.int (v + 4), .ref mi_RO, .long (x3.toInt64 <<< ((32 : Int32).toInt64 &&& 63)), .int x2, .int x1, .ref 0], (149, 5163), ks i a q r) (by rfl) ?_
  refine mi_l_iald cx (ax := (0, 0, 0, 0, 0)) (mi_sL34 _ _ (by rfl)) A4 ?_
  refine mi_l_stepsK cx mi_sL34 4 _ (1300, [(3, .int v), (2, .ref 116), (1, .ref 0), (0, .ref mi_RO)], [.long ((x3.toInt64 <<< ((32 : Int32).toInt64 &&& 63)) ||| (x4.toInt64 &&& 4294967295)), .int x2, .int x1, .ref 0], (149, 5163), ks i a q r) (by rfl) ?_
  refine mi_l_callI cx (pc := 1300) (ls := [(3, .int v), (2, .ref 116), (1, .ref 0), (0, .ref mi_RO)]) (st := [.long ((x3.toInt64 <<< ((32 : Int32).toInt64 &&& 63)) ||| (x4.toInt64 &&& 4294967295)), .int x2, .int x1, .ref 0]) (h := ks i a q r) (i := (.invokevirtual 152, 3, 115, 0, 9, 0, 310)) (mi_sL34 _ _ (by rfl)) (by rfl) (cy := mi_c115) rfl rfl (kd115_0 K.1.1 K.1.2 x1 x2 ((x3.toInt64 <<< ((32 : Int32).toInt64 &&& 63)) ||| (x4.toInt64 &&& 4294967295))) (Nat.le_of_ble_eq_true rfl) ?_
  intro u1 i1 a1 q1 r1 g1 P1
  have g1I := g1.I
  have g1R := g1.R
  refine mi_l_stepsK cx mi_sL34 6 _ (1309, [(3, .int v), (2, .ref 116), (1, .ref 0), (0, .ref mi_RO)], [.int (v + 1), .ref mi_RO, .ref 116], (149, 5163), ks i1 a1 q1 r1) (by rfl) ?_
  refine mi_l_iald cx (ax := (0, 0, 0, 0, 0)) (mi_sL34 _ _ (by rfl)) A1 ?_
  refine mi_l_stepsK cx mi_sL34 4 _ (1314, [(3, .int v), (2, .ref 116), (1, .ref 0), (0, .ref mi_RO)], [.int (v + 2), .ref mi_RO, .int x1, .ref 116], (149, 5163), ks i1 a1 q1 r1) (by rfl) ?_
  refine mi_l_iald cx (ax := (0, 0, 0, 0, 0)) (mi_sL34 _ _ (by rfl)) A2 ?_
  refine mi_l_stepsK cx mi_sL34 4 _ (1319, [(3, .int v), (2, .ref 116), (1, .ref 0), (0, .ref mi_RO)], [.int (v + 3), .ref mi_RO, .int x2, .int x1, .ref 116], (149, 5163), ks i1 a1 q1 r1) (by rfl) ?_
  refine mi_l_iald cx (ax := (0, 0, 0, 0, 0)) (mi_sL34 _ _ (by rfl)) A3 ?_
  refine mi_l_stepsK cx mi_sL34 7 _ (1328, [(3, .int v), (2, .ref 116), (1, .ref 0), (0, .ref mi_RO)], [.int (v + 4), .ref mi_RO, .long (x3.toInt64 <<< ((32 : Int32).toInt64 &&& 63)), .int x2, .int x1, .ref 116], (149, 5163), ks i1 a1 q1 r1) (by rfl) ?_
  refine mi_l_iald cx (ax := (0, 0, 0, 0, 0)) (mi_sL34 _ _ (by rfl)) A4 ?_
  refine mi_l_stepsK cx mi_sL34 4 _ (1335, [(3, .int v), (2, .ref 116), (1, .ref 0), (0, .ref mi_RO)], [.long ((x3.toInt64 <<< ((32 : Int32).toInt64 &&& 63)) ||| (x4.toInt64 &&& 4294967295)), .int x2, .int x1, .ref 116], (149, 5163), ks i1 a1 q1 r1) (by rfl) ?_
  refine mi_l_callI cx (pc := 1335) (ls := [(3, .int v), (2, .ref 116), (1, .ref 0), (0, .ref mi_RO)]) (st := [.long ((x3.toInt64 <<< ((32 : Int32).toInt64 &&& 63)) ||| (x4.toInt64 &&& 4294967295)), .int x2, .int x1, .ref 116]) (h := ks i1 a1 q1 r1) (i := (.invokevirtual 156, 3, 221, 0, 9, 0, 472)) (mi_sL34 _ _ (by rfl)) (by rfl) (cy := mi_c221) rfl rfl (kd221_116 g1I g1R x1 x2 ((x3.toInt64 <<< ((32 : Int32).toInt64 &&& 63)) ||| (x4.toInt64 &&& 4294967295))) (Nat.le_of_ble_eq_true rfl) ?_
  intro u2 i2 a2 q2 r2 g2 P2
  have K2 := st_put K g1 P1 g2 P2
  have Rn0 := kTB_fr g2 (by decide +kernel) (kTB_fr g1 (by decide +kernel) R0)
  have Rn1 := kMar_fr g2 (by decide +kernel) (g2.fa 118 rfl) (g2.fa 117 rfl) (g2.fi 7426 rfl) g1.R (kMar_fr g1 (by decide +kernel) (g1.fa 118 rfl) (g1.fa 117 rfl) (g1.fi 7426 rfl) K.1.2 R1)
  refine mi_l_stepsK cx mi_sL34 2 _ (1494, [(3, .int v), (2, .ref 116), (1, .ref 0), (0, .ref mi_RO)], [], (149, 5163), ks i2 a2 q2 r2) (by rfl) ?_
  exact k _ _ _ _ ⟨K2, Rn0, Rn1⟩
set_option maxRecDepth 100000 in
set_option maxHeartbeats 4000000 in
theorem ml_element (cx : mi_CxL p s m c b ra cT D xl) {v : Int32} {i : Nat → Int32} {a : Nat → List Int32} {q : Nat → List Int64} {r : Nat → Nat} {x1 : Int32} {x2 : Int32} (K : kAl i a q r) (k : ∀ i a q r, kAl i a q r → mi_LW p l e s m below meth c b ra cT D (1494, [(3, .int v), (2, .ref 116), (1, .ref 0), (0, .ref mi_RO)], [], (149, 5163), ks i a q r)) (A1 : kArg xl (v + 1) x1) (A2 : kArg xl (v + 2) x2) : mi_LW p l e s m below meth c b ra cT D (1342, [(3, .int v), (2, .ref 116), (1, .ref 0), (0, .ref mi_RO)], [], (149, 5163), ks i a q r) := by
  obtain ⟨K, R0, R1⟩ := K
  refine mi_l_stepsK cx mi_sL35 5 _ (1347, [(3, .int v), (2, .ref 116), (1, .ref 0), (0, .ref mi_RO)], [.int (v + 1), .ref mi_RO, .ref 0], (149, 5163), ks i a q r) (by rfl) ?_
  refine mi_l_iald cx (ax := (0, 0, 0, 0, 0)) (mi_sL35 _ _ (by rfl)) A1 ?_
  refine mi_l_stepsK cx mi_sL35 4 _ (1352, [(3, .int v), (2, .ref 116), (1, .ref 0), (0, .ref mi_RO)], [.int (v + 2), .ref mi_RO, .int x1, .ref 0], (149, 5163), ks i a q r) (by rfl) ?_
  refine mi_l_iald cx (ax := (0, 0, 0, 0, 0)) (mi_sL35 _ _ (by rfl)) A2 ?_
  refine mi_l_callPL cx (pc := 1353) (ls := [(3, .int v), (2, .ref 116), (1, .ref 0), (0, .ref mi_RO)]) (st := [.int x2, .int x1, .ref 0]) (h := ks i a q r) (i := (.invokevirtual 157, 3, 116, 0, 9, 0, 313)) (mi_sL35 _ _ (by rfl)) (by rfl) (cy := mi_c116) rfl rfl (kc116_0 K.1.1 K.1.2 x1 x2) (Nat.le_of_ble_eq_true rfl) ?_
  intro u1 P1
  have g1I := K.1.1
  have g1R := K.1.2
  have KU1 := K
  refine mi_l_stepsK cx mi_sL35 6 _ (1362, [(3, .int v), (2, .ref 116), (1, .ref 0), (0, .ref mi_RO)], [.int (v + 1), .ref mi_RO, .ref 116], (149, 5163), ks i a q r) (by rfl) ?_
  refine mi_l_iald cx (ax := (0, 0, 0, 0, 0)) (mi_sL35 _ _ (by rfl)) A1 ?_
  refine mi_l_stepsK cx mi_sL35 4 _ (1367, [(3, .int v), (2, .ref 116), (1, .ref 0), (0, .ref mi_RO)], [.int (v + 2), .ref mi_RO, .int x1, .ref 116], (149, 5163), ks i a q r) (by rfl) ?_
  refine mi_l_iald cx (ax := (0, 0, 0, 0, 0)) (mi_sL35 _ _ (by rfl)) A2 ?_
  refine mi_l_callPL cx (pc := 1368) (ls := [(3, .int v), (2, .ref 116), (1, .ref 0), (0, .ref mi_RO)]) (st := [.int x2, .int x1, .ref 116]) (h := ks i a q r) (i := (.invokevirtual 161, 3, 222, 0, 9, 0, 475)) (mi_sL35 _ _ (by rfl)) (by rfl) (cy := mi_c222) rfl rfl (kc222_116 g1I g1R x1 x2) (Nat.le_of_ble_eq_true rfl) ?_
  intro u2 P2
  refine mi_l_stepsK cx mi_sL35 2 _ (1494, [(3, .int v), (2, .ref 116), (1, .ref 0), (0, .ref mi_RO)], [], (149, 5163), ks i a q r) (by rfl) ?_
  exact k _ _ _ _ ⟨K, R0, R1⟩
set_option maxRecDepth 100000 in
set_option maxHeartbeats 4000000 in
theorem ml_shift (cx : mi_CxL p s m c b ra cT D xl) {v : Int32} {i : Nat → Int32} {a : Nat → List Int32} {q : Nat → List Int64} {r : Nat → Nat} {x1 : Int32} {x2 : Int32} {x3 : Int32} {x4 : Int32} {x5 : Int32} (K : kAl i a q r) (k : ∀ i a q r, kAl i a q r → mi_LW p l e s m below meth c b ra cT D (1494, [(3, .int v), (2, .ref 116), (1, .ref 0), (0, .ref mi_RO)], [], (149, 5163), ks i a q r)) (A1 : kArg xl (v + 1) x1) (A2 : kArg xl (v + 2) x2) (A3 : kArg xl (v + 3) x3) (A4 : kArg xl (v + 4) x4) (A5 : kArg xl (v + 5) x5) : mi_LW p l e s m below meth c b ra cT D (1375, [(3, .int v), (2, .ref 116), (1, .ref 0), (0, .ref mi_RO)], [], (149, 5163), ks i a q r) := by
  obtain ⟨K, R0, R1⟩ := K
  refine mi_l_stepsK cx mi_sL36 5 _ (1380, [(3, .int v), (2, .ref 116), (1, .ref 0), (0, .ref mi_RO)], [.int (v + 1), .ref mi_RO, .ref 0], (149, 5163), ks i a q r) (by rfl) ?_
  refine mi_l_iald cx (ax := (0, 0, 0, 0, 0)) (mi_sL36 _ _ (by rfl)) A1 ?_
  refine mi_l_stepsK cx mi_sL36 4 _ (1385, [(3, .int v), (2, .ref 116), (1, .ref 0), (0, .ref mi_RO)], [.int (v + 2), .ref mi_RO, .int x1, .ref 0], (149, 5163), ks i a q r) (by rfl) ?_
  refine mi_l_iald cx (ax := (0, 0, 0, 0, 0)) (mi_sL36 _ _ (by rfl)) A2 ?_
  refine mi_l_stepsK cx mi_sL36 4 _ (1390, [(3, .int v), (2, .ref 116), (1, .ref 0), (0, .ref mi_RO)], [.int (v + 3), .ref mi_RO, .int x2, .int x1, .ref 0], (149, 5163), ks i a q r) (by rfl) ?_
  refine mi_l_iald cx (ax := (0, 0, 0, 0, 0)) (mi_sL36 _ _ (by rfl)) A3 ?_
  refine mi_l_stepsK cx mi_sL36 4 _ (1395, [(3, .int v), (2, .ref 116), (1, .ref 0), (0, .ref mi_RO)], [.int (v + 4), .ref mi_RO, .int x3, .int x2, .int x1, .ref 0], (149, 5163), ks i a q r) (by rfl) ?_
  refine mi_l_iald cx (ax := (0, 0, 0, 0, 0)) (mi_sL36 _ _ (by rfl)) A4 ?_
  refine mi_l_stepsK cx mi_sL36 4 _ (1400, [(3, .int v), (2, .ref 116), (1, .ref 0), (0, .ref mi_RO)], [.int (v + 5), .ref mi_RO, .int x4, .int x3, .int x2, .int x1, .ref 0], (149, 5163), ks i a q r) (by rfl) ?_
  refine mi_l_iald cx (ax := (0, 0, 0, 0, 0)) (mi_sL36 _ _ (by rfl)) A5 ?_
  refine mi_l_callI cx (pc := 1401) (ls := [(3, .int v), (2, .ref 116), (1, .ref 0), (0, .ref mi_RO)]) (st := [.int x5, .int x4, .int x3, .int x2, .int x1, .ref 0]) (h := ks i a q r) (i := (.invokevirtual 162, 3, 117, 0, 9, 0, 315)) (mi_sL36 _ _ (by rfl)) (by rfl) (cy := mi_c117) rfl rfl (kd117_0 K.1.1 K.1.2 x1 x2 x3 x4 x5) (Nat.le_of_ble_eq_true rfl) ?_
  intro u1 i1 a1 q1 r1 g1 P1
  have g1I := g1.I
  have g1R := g1.R
  refine mi_l_stepsK cx mi_sL36 6 _ (1410, [(3, .int v), (2, .ref 116), (1, .ref 0), (0, .ref mi_RO)], [.int (v + 1), .ref mi_RO, .ref 116], (149, 5163), ks i1 a1 q1 r1) (by rfl) ?_
  refine mi_l_iald cx (ax := (0, 0, 0, 0, 0)) (mi_sL36 _ _ (by rfl)) A1 ?_
  refine mi_l_stepsK cx mi_sL36 4 _ (1415, [(3, .int v), (2, .ref 116), (1, .ref 0), (0, .ref mi_RO)], [.int (v + 2), .ref mi_RO, .int x1, .ref 116], (149, 5163), ks i1 a1 q1 r1) (by rfl) ?_
  refine mi_l_iald cx (ax := (0, 0, 0, 0, 0)) (mi_sL36 _ _ (by rfl)) A2 ?_
  refine mi_l_stepsK cx mi_sL36 4 _ (1420, [(3, .int v), (2, .ref 116), (1, .ref 0), (0, .ref mi_RO)], [.int (v + 3), .ref mi_RO, .int x2, .int x1, .ref 116], (149, 5163), ks i1 a1 q1 r1) (by rfl) ?_
  refine mi_l_iald cx (ax := (0, 0, 0, 0, 0)) (mi_sL36 _ _ (by rfl)) A3 ?_
  refine mi_l_stepsK cx mi_sL36 4 _ (1425, [(3, .int v), (2, .ref 116), (1, .ref 0), (0, .ref mi_RO)], [.int (v + 4), .ref mi_RO, .int x3, .int x2, .int x1, .ref 116], (149, 5163), ks i1 a1 q1 r1) (by rfl) ?_
  refine mi_l_iald cx (ax := (0, 0, 0, 0, 0)) (mi_sL36 _ _ (by rfl)) A4 ?_
  refine mi_l_stepsK cx mi_sL36 4 _ (1430, [(3, .int v), (2, .ref 116), (1, .ref 0), (0, .ref mi_RO)], [.int (v + 5), .ref mi_RO, .int x4, .int x3, .int x2, .int x1, .ref 116], (149, 5163), ks i1 a1 q1 r1) (by rfl) ?_
  refine mi_l_iald cx (ax := (0, 0, 0, 0, 0)) (mi_sL36 _ _ (by rfl)) A5 ?_
  refine mi_l_callI cx (pc := 1431) (ls := [(3, .int v), (2, .ref 116), (1, .ref 0), (0, .ref mi_RO)]) (st := [.int x5, .int x4, .int x3, .int x2, .int x1, .ref 116]) (h := ks i1 a1 q1 r1) (i := (.invokevirtual 166, 3, 223, 0, 9, 0, 477)) (mi_sL36 _ _ (by rfl)) (by rfl) (cy := mi_c223) rfl rfl (kd223_116 g1I g1R x1 x2 x3 x4 x5) (Nat.le_of_ble_eq_true rfl) ?_
  intro u2 i2 a2 q2 r2 g2 P2
  obtain ⟨K2, ev⟩ := st_shift K g1 P1 g2 P2
  have Rn0 := kTB_fr g2 (by decide +kernel) (kTB_fr g1 (by decide +kernel) R0)
  have Rn1 := kMar_fr g2 (by decide +kernel) (g2.fa 118 rfl) (g2.fa 117 rfl) (g2.fi 7426 rfl) g1.R (kMar_fr g1 (by decide +kernel) (g1.fa 118 rfl) (g1.fa 117 rfl) (g1.fi 7426 rfl) K.1.2 R1)
  refine mi_l_stepsK cx mi_sL36 2 _ (1494, [(3, .int v), (2, .ref 116), (1, .ref 0), (0, .ref mi_RO)], [], (149, 5163), ks i2 a2 q2 r2) (by rfl) ?_
  exact k _ _ _ _ ⟨K2, Rn0, Rn1⟩
set_option maxRecDepth 100000 in
set_option maxHeartbeats 4000000 in
theorem ml_taken (cx : mi_CxL p s m c b ra cT D xl) {v : Int32} {i : Nat → Int32} {a : Nat → List Int32} {q : Nat → List Int64} {r : Nat → Nat} {x1 : Int32} {x2 : Int32} (K : kAl i a q r) (k : ∀ i a q r, kAl i a q r → mi_LW p l e s m below meth c b ra cT D (1494, [(3, .int v), (2, .ref 116), (1, .ref 0), (0, .ref mi_RO)], [], (149, 5163), ks i a q r)) (A1 : kArg xl (v + 1) x1) (A2 : kArg xl (v + 2) x2) : mi_LW p l e s m below meth c b ra cT D (1438, [(3, .int v), (2, .ref 116), (1, .ref 0), (0, .ref mi_RO)], [], (149, 5163), ks i a q r) := by
  obtain ⟨K, R0, R1⟩ := K
  refine mi_l_stepsK cx mi_sL37 5 _ (1443, [(3, .int v), (2, .ref 116), (1, .ref 0), (0, .ref mi_RO)], [.int (v + 1), .ref mi_RO, .ref 0], (149, 5163), ks i a q r) (by rfl) ?_
  refine mi_l_iald cx (ax := (0, 0, 0, 0, 0)) (mi_sL37 _ _ (by rfl)) A1 ?_
  refine mi_l_stepsK cx mi_sL37 4 _ (1448, [(3, .int v), (2, .ref 116), (1, .ref 0), (0, .ref mi_RO)], [.int (v + 2), .ref mi_RO, .int x1, .ref 0], (149, 5163), ks i a q r) (by rfl) ?_
  refine mi_l_iald cx (ax := (0, 0, 0, 0, 0)) (mi_sL37 _ _ (by rfl)) A2 ?_
  refine mi_l_callPI cx (pc := 1449) (ls := [(3, .int v), (2, .ref 116), (1, .ref 0), (0, .ref mi_RO)]) (st := [.int x2, .int x1, .ref 0]) (h := ks i a q r) (i := (.invokevirtual 167, 3, 118, 0, 9, 0, 318)) (mi_sL37 _ _ (by rfl)) (by rfl) (cy := mi_c118) rfl rfl (kc118_0 K.1.1 K.1.2 x1 x2) (Nat.le_of_ble_eq_true rfl) ?_
  intro u1 P1
  have g1I := K.1.1
  have g1R := K.1.2
  have KU1 := K
  refine mi_l_stepsK cx mi_sL37 6 _ (1458, [(3, .int v), (2, .ref 116), (1, .ref 0), (0, .ref mi_RO)], [.int (v + 1), .ref mi_RO, .ref 116], (149, 5163), ks i a q r) (by rfl) ?_
  refine mi_l_iald cx (ax := (0, 0, 0, 0, 0)) (mi_sL37 _ _ (by rfl)) A1 ?_
  refine mi_l_stepsK cx mi_sL37 4 _ (1463, [(3, .int v), (2, .ref 116), (1, .ref 0), (0, .ref mi_RO)], [.int (v + 2), .ref mi_RO, .int x1, .ref 116], (149, 5163), ks i a q r) (by rfl) ?_
  refine mi_l_iald cx (ax := (0, 0, 0, 0, 0)) (mi_sL37 _ _ (by rfl)) A2 ?_
  refine mi_l_callPI cx (pc := 1464) (ls := [(3, .int v), (2, .ref 116), (1, .ref 0), (0, .ref mi_RO)]) (st := [.int x2, .int x1, .ref 116]) (h := ks i a q r) (i := (.invokevirtual 170, 3, 224, 0, 9, 0, 478)) (mi_sL37 _ _ (by rfl)) (by rfl) (cy := mi_c224) rfl rfl (kc224_116 g1I g1R x1 x2 (KU1.2.1.1)) (Nat.le_of_ble_eq_true rfl) ?_
  intro u2 P2
  refine mi_l_stepsK cx mi_sL37 2 _ (1494, [(3, .int v), (2, .ref 116), (1, .ref 0), (0, .ref mi_RO)], [], (149, 5163), ks i a q r) (by rfl) ?_
  exact k _ _ _ _ ⟨K, R0, R1⟩
set_option maxRecDepth 100000 in
set_option maxHeartbeats 4000000 in
theorem ml_count (cx : mi_CxL p s m c b ra cT D xl) {v : Int32} {i : Nat → Int32} {a : Nat → List Int32} {q : Nat → List Int64} {r : Nat → Nat} {x1 : Int32} (K : kAl i a q r) (k : ∀ i a q r, kAl i a q r → mi_LW p l e s m below meth c b ra cT D (1494, [(3, .int v), (2, .ref 116), (1, .ref 0), (0, .ref mi_RO)], [], (149, 5163), ks i a q r)) (A1 : kArg xl (v + 1) x1) : mi_LW p l e s m below meth c b ra cT D (1471, [(3, .int v), (2, .ref 116), (1, .ref 0), (0, .ref mi_RO)], [], (149, 5163), ks i a q r) := by
  obtain ⟨K, R0, R1⟩ := K
  refine mi_l_stepsK cx mi_sL38 5 _ (1476, [(3, .int v), (2, .ref 116), (1, .ref 0), (0, .ref mi_RO)], [.int (v + 1), .ref mi_RO, .ref 0], (149, 5163), ks i a q r) (by rfl) ?_
  refine mi_l_iald cx (ax := (0, 0, 0, 0, 0)) (mi_sL38 _ _ (by rfl)) A1 ?_
  refine mi_l_callPI cx (pc := 1477) (ls := [(3, .int v), (2, .ref 116), (1, .ref 0), (0, .ref mi_RO)]) (st := [.int x1, .ref 0]) (h := ks i a q r) (i := (.invokevirtual 171, 3, 119, 0, 9, 0, 320)) (mi_sL38 _ _ (by rfl)) (by rfl) (cy := mi_c119) rfl rfl (kc119_0 K.1.1 K.1.2 x1) (Nat.le_of_ble_eq_true rfl) ?_
  intro u1 P1
  have g1I := K.1.1
  have g1R := K.1.2
  have KU1 := K
  refine mi_l_stepsK cx mi_sL38 6 _ (1486, [(3, .int v), (2, .ref 116), (1, .ref 0), (0, .ref mi_RO)], [.int (v + 1), .ref mi_RO, .ref 116], (149, 5163), ks i a q r) (by rfl) ?_
  refine mi_l_iald cx (ax := (0, 0, 0, 0, 0)) (mi_sL38 _ _ (by rfl)) A1 ?_
  refine mi_l_callPI cx (pc := 1487) (ls := [(3, .int v), (2, .ref 116), (1, .ref 0), (0, .ref mi_RO)]) (st := [.int x1, .ref 116]) (h := ks i a q r) (i := (.invokevirtual 174, 3, 225, 0, 9, 0, 479)) (mi_sL38 _ _ (by rfl)) (by rfl) (cy := mi_c225) rfl rfl (kc225_116 g1I g1R x1) (Nat.le_of_ble_eq_true rfl) ?_
  intro u2 P2
  refine mi_l_stepsK cx mi_sL38 2 _ (1494, [(3, .int v), (2, .ref 116), (1, .ref 0), (0, .ref mi_RO)], [], (149, 5163), ks i a q r) (by rfl) ?_
  exact k _ _ _ _ ⟨K, R0, R1⟩
set_option maxRecDepth 100000 in
set_option maxHeartbeats 4000000 in
theorem ml_six (cx : mi_CxL p s m c b ra cT D xl) {z x1 x2 x3 x4 x5 : Int32} {v : Int32} {i : Nat → Int32} {a : Nat → List Int32} {q : Nat → List Int64} {r : Nat → Nat} (K : kAl i a q r) (k : ∀ i a q r, kAl i a q r → mi_LW p l e s m below meth c b ra cT D (1494, [(3, .int v), (2, .ref 116), (1, .ref 0), (0, .ref mi_RO)], [], (149, 5163), ks i a q r)) (A1 : kArg xl (v + 1) x1) (A2 : kArg xl (v + 2) x2) (A3 : kArg xl (v + 3) x3) (A4 : kArg xl (v + 4) x4) (A5 : kArg xl (v + 5) x5) : mi_LW p l e s m below meth c b ra cT D (33, [(3, .int v), (2, .ref 116), (1, .ref 0), (0, .ref mi_RO)], [.int (z &&& 63)], (149, 5163), ks i a q r) := by
  have hb := mi_l_and z
  by_cases h37 : 37 < (z &&& 63).toInt
  · refine mi_l_sw cx (i := (.tableswitch 1461 0 37 #[167, 200, 243, 286, 319, 342, 355, 388, 431, 474, 517, 560, 613, 656, 699, 732, 765, 788, 831, 874, 917, 940, 953, 996, 1019, 1032, 1045, 1058, 1071, 1094, 1137, 1160, 1193, 1236, 1309, 1342, 1405, 1438], 167, 0, 0, 0, 0, 0)) (by rfl) rfl (Or.inr h37) 1494 (by rfl) ?_
    exact k _ _ _ _ K
  have hor : (z &&& 63).toInt = 0 ∨ (z &&& 63).toInt = 1 ∨ (z &&& 63).toInt = 2 ∨ (z &&& 63).toInt = 3 ∨ (z &&& 63).toInt = 4 ∨ (z &&& 63).toInt = 5 ∨ (z &&& 63).toInt = 6 ∨ (z &&& 63).toInt = 7 ∨ (z &&& 63).toInt = 8 ∨ (z &&& 63).toInt = 9 ∨ (z &&& 63).toInt = 10 ∨ (z &&& 63).toInt = 11 ∨ (z &&& 63).toInt = 12 ∨ (z &&& 63).toInt = 13 ∨ (z &&& 63).toInt = 14 ∨ (z &&& 63).toInt = 15 ∨ (z &&& 63).toInt = 16 ∨ (z &&& 63).toInt = 17 ∨ (z &&& 63).toInt = 18 ∨ (z &&& 63).toInt = 19 ∨ (z &&& 63).toInt = 20 ∨ (z &&& 63).toInt = 21 ∨ (z &&& 63).toInt = 22 ∨ (z &&& 63).toInt = 23 ∨ (z &&& 63).toInt = 24 ∨ (z &&& 63).toInt = 25 ∨ (z &&& 63).toInt = 26 ∨ (z &&& 63).toInt = 27 ∨ (z &&& 63).toInt = 28 ∨ (z &&& 63).toInt = 29 ∨ (z &&& 63).toInt = 30 ∨ (z &&& 63).toInt = 31 ∨ (z &&& 63).toInt = 32 ∨ (z &&& 63).toInt = 33 ∨ (z &&& 63).toInt = 34 ∨ (z &&& 63).toInt = 35 ∨ (z &&& 63).toInt = 36 ∨ (z &&& 63).toInt = 37 := by omega
  rcases hor with hh | hh | hh | hh | hh | hh | hh | hh | hh | hh | hh | hh | hh | hh | hh | hh | hh | hh | hh | hh | hh | hh | hh | hh | hh | hh | hh | hh | hh | hh | hh | hh | hh | hh | hh | hh | hh | hh
  · refine mi_l_eq (x1 := (33, [(3, .int v), (2, .ref 116), (1, .ref 0), (0, .ref mi_RO)], [.int 0], (149, 5163), ks i a q r)) (by rw [(kj_eq hh (by decide) : (z &&& 63) = 0)]) ?_
    refine mi_l_steps cx 1 _ (200, [(3, .int v), (2, .ref 116), (1, .ref 0), (0, .ref mi_RO)], [], (149, 5163), ks i a q r) (by rfl) ?_
    exact ml_buyer cx K k A1 A2
  · refine mi_l_eq (x1 := (33, [(3, .int v), (2, .ref 116), (1, .ref 0), (0, .ref mi_RO)], [.int 1], (149, 5163), ks i a q r)) (by rw [(kj_eq hh (by decide) : (z &&& 63) = 1)]) ?_
    refine mi_l_steps cx 1 _ (233, [(3, .int v), (2, .ref 116), (1, .ref 0), (0, .ref mi_RO)], [], (149, 5163), ks i a q r) (by rfl) ?_
    exact ml_buyers cx K k A1 A2 A3
  · refine mi_l_eq (x1 := (33, [(3, .int v), (2, .ref 116), (1, .ref 0), (0, .ref mi_RO)], [.int 2], (149, 5163), ks i a q r)) (by rw [(kj_eq hh (by decide) : (z &&& 63) = 2)]) ?_
    refine mi_l_steps cx 1 _ (276, [(3, .int v), (2, .ref 116), (1, .ref 0), (0, .ref mi_RO)], [], (149, 5163), ks i a q r) (by rfl) ?_
    exact ml_mend cx K k A1 A2 A3
  · refine mi_l_eq (x1 := (33, [(3, .int v), (2, .ref 116), (1, .ref 0), (0, .ref mi_RO)], [.int 3], (149, 5163), ks i a q r)) (by rw [(kj_eq hh (by decide) : (z &&& 63) = 3)]) ?_
    refine mi_l_steps cx 1 _ (319, [(3, .int v), (2, .ref 116), (1, .ref 0), (0, .ref mi_RO)], [], (149, 5163), ks i a q r) (by rfl) ?_
    exact ml_of cx K k A1 A2
  · refine mi_l_eq (x1 := (33, [(3, .int v), (2, .ref 116), (1, .ref 0), (0, .ref mi_RO)], [.int 4], (149, 5163), ks i a q r)) (by rw [(kj_eq hh (by decide) : (z &&& 63) = 4)]) ?_
    refine mi_l_steps cx 1 _ (352, [(3, .int v), (2, .ref 116), (1, .ref 0), (0, .ref mi_RO)], [], (149, 5163), ks i a q r) (by rfl) ?_
    exact ml_feed cx K k A1
  · refine mi_l_eq (x1 := (33, [(3, .int v), (2, .ref 116), (1, .ref 0), (0, .ref mi_RO)], [.int 5], (149, 5163), ks i a q r)) (by rw [(kj_eq hh (by decide) : (z &&& 63) = 5)]) ?_
    refine mi_l_steps cx 1 _ (375, [(3, .int v), (2, .ref 116), (1, .ref 0), (0, .ref mi_RO)], [], (149, 5163), ks i a q r) (by rfl) ?_
    exact ml_law cx K k 
  · refine mi_l_eq (x1 := (33, [(3, .int v), (2, .ref 116), (1, .ref 0), (0, .ref mi_RO)], [.int 6], (149, 5163), ks i a q r)) (by rw [(kj_eq hh (by decide) : (z &&& 63) = 6)]) ?_
    refine mi_l_steps cx 1 _ (388, [(3, .int v), (2, .ref 116), (1, .ref 0), (0, .ref mi_RO)], [], (149, 5163), ks i a q r) (by rfl) ?_
    exact ml_book cx K k A1 A2
  · refine mi_l_eq (x1 := (33, [(3, .int v), (2, .ref 116), (1, .ref 0), (0, .ref mi_RO)], [.int 7], (149, 5163), ks i a q r)) (by rw [(kj_eq hh (by decide) : (z &&& 63) = 7)]) ?_
    refine mi_l_steps cx 1 _ (421, [(3, .int v), (2, .ref 116), (1, .ref 0), (0, .ref mi_RO)], [], (149, 5163), ks i a q r) (by rfl) ?_
    exact ml_market cx K k A1 A2 A3
  · refine mi_l_eq (x1 := (33, [(3, .int v), (2, .ref 116), (1, .ref 0), (0, .ref mi_RO)], [.int 8], (149, 5163), ks i a q r)) (by rw [(kj_eq hh (by decide) : (z &&& 63) = 8)]) ?_
    refine mi_l_steps cx 1 _ (464, [(3, .int v), (2, .ref 116), (1, .ref 0), (0, .ref mi_RO)], [], (149, 5163), ks i a q r) (by rfl) ?_
    exact ml_coming cx K k A1 A2 A3
  · refine mi_l_eq (x1 := (33, [(3, .int v), (2, .ref 116), (1, .ref 0), (0, .ref mi_RO)], [.int 9], (149, 5163), ks i a q r)) (by rw [(kj_eq hh (by decide) : (z &&& 63) = 9)]) ?_
    refine mi_l_steps cx 1 _ (507, [(3, .int v), (2, .ref 116), (1, .ref 0), (0, .ref mi_RO)], [], (149, 5163), ks i a q r) (by rfl) ?_
    exact ml_later cx K k A1 A2 A3
  · refine mi_l_eq (x1 := (33, [(3, .int v), (2, .ref 116), (1, .ref 0), (0, .ref mi_RO)], [.int 10], (149, 5163), ks i a q r)) (by rw [(kj_eq hh (by decide) : (z &&& 63) = 10)]) ?_
    refine mi_l_steps cx 1 _ (550, [(3, .int v), (2, .ref 116), (1, .ref 0), (0, .ref mi_RO)], [], (149, 5163), ks i a q r) (by rfl) ?_
    exact ml_onceMore cx K k A1 A2 A3
  · refine mi_l_eq (x1 := (33, [(3, .int v), (2, .ref 116), (1, .ref 0), (0, .ref mi_RO)], [.int 11], (149, 5163), ks i a q r)) (by rw [(kj_eq hh (by decide) : (z &&& 63) = 11)]) ?_
    refine mi_l_steps cx 1 _ (593, [(3, .int v), (2, .ref 116), (1, .ref 0), (0, .ref mi_RO)], [], (149, 5163), ks i a q r) (by rfl) ?_
    exact ml_hired cx K k A1 A2 A3 A4
  · refine mi_l_eq (x1 := (33, [(3, .int v), (2, .ref 116), (1, .ref 0), (0, .ref mi_RO)], [.int 12], (149, 5163), ks i a q r)) (by rw [(kj_eq hh (by decide) : (z &&& 63) = 12)]) ?_
    refine mi_l_steps cx 1 _ (646, [(3, .int v), (2, .ref 116), (1, .ref 0), (0, .ref mi_RO)], [], (149, 5163), ks i a q r) (by rfl) ?_
    exact ml_latch cx K k A1 A2 A3
  · refine mi_l_eq (x1 := (33, [(3, .int v), (2, .ref 116), (1, .ref 0), (0, .ref mi_RO)], [.int 13], (149, 5163), ks i a q r)) (by rw [(kj_eq hh (by decide) : (z &&& 63) = 13)]) ?_
    refine mi_l_steps cx 1 _ (689, [(3, .int v), (2, .ref 116), (1, .ref 0), (0, .ref mi_RO)], [], (149, 5163), ks i a q r) (by rfl) ?_
    exact ml_order cx K k A1 A2 A3
  · refine mi_l_eq (x1 := (33, [(3, .int v), (2, .ref 116), (1, .ref 0), (0, .ref mi_RO)], [.int 14], (149, 5163), ks i a q r)) (by rw [(kj_eq hh (by decide) : (z &&& 63) = 14)]) ?_
    refine mi_l_steps cx 1 _ (732, [(3, .int v), (2, .ref 116), (1, .ref 0), (0, .ref mi_RO)], [], (149, 5163), ks i a q r) (by rfl) ?_
    exact ml_flow cx K k A1 A2
  · refine mi_l_eq (x1 := (33, [(3, .int v), (2, .ref 116), (1, .ref 0), (0, .ref mi_RO)], [.int 15], (149, 5163), ks i a q r)) (by rw [(kj_eq hh (by decide) : (z &&& 63) = 15)]) ?_
    refine mi_l_steps cx 1 _ (765, [(3, .int v), (2, .ref 116), (1, .ref 0), (0, .ref mi_RO)], [], (149, 5163), ks i a q r) (by rfl) ?_
    exact ml_round cx K k A1 A2
  · refine mi_l_eq (x1 := (33, [(3, .int v), (2, .ref 116), (1, .ref 0), (0, .ref mi_RO)], [.int 16], (149, 5163), ks i a q r)) (by rw [(kj_eq hh (by decide) : (z &&& 63) = 16)]) ?_
    refine mi_l_steps cx 1 _ (798, [(3, .int v), (2, .ref 116), (1, .ref 0), (0, .ref mi_RO)], [], (149, 5163), ks i a q r) (by rfl) ?_
    exact ml_judge cx K k A1
  · refine mi_l_eq (x1 := (33, [(3, .int v), (2, .ref 116), (1, .ref 0), (0, .ref mi_RO)], [.int 17], (149, 5163), ks i a q r)) (by rw [(kj_eq hh (by decide) : (z &&& 63) = 17)]) ?_
    refine mi_l_steps cx 1 _ (821, [(3, .int v), (2, .ref 116), (1, .ref 0), (0, .ref mi_RO)], [], (149, 5163), ks i a q r) (by rfl) ?_
    exact ml_fits cx K k A1 A2 A3
  · refine mi_l_eq (x1 := (33, [(3, .int v), (2, .ref 116), (1, .ref 0), (0, .ref mi_RO)], [.int 18], (149, 5163), ks i a q r)) (by rw [(kj_eq hh (by decide) : (z &&& 63) = 18)]) ?_
    refine mi_l_steps cx 1 _ (864, [(3, .int v), (2, .ref 116), (1, .ref 0), (0, .ref mi_RO)], [], (149, 5163), ks i a q r) (by rfl) ?_
    exact ml_byTurns cx K k A1 A2 A3
  · refine mi_l_eq (x1 := (33, [(3, .int v), (2, .ref 116), (1, .ref 0), (0, .ref mi_RO)], [.int 19], (149, 5163), ks i a q r)) (by rw [(kj_eq hh (by decide) : (z &&& 63) = 19)]) ?_
    refine mi_l_steps cx 1 _ (907, [(3, .int v), (2, .ref 116), (1, .ref 0), (0, .ref mi_RO)], [], (149, 5163), ks i a q r) (by rfl) ?_
    exact ml_drawn cx K k A1 A2 A3
  · refine mi_l_eq (x1 := (33, [(3, .int v), (2, .ref 116), (1, .ref 0), (0, .ref mi_RO)], [.int 20], (149, 5163), ks i a q r)) (by rw [(kj_eq hh (by decide) : (z &&& 63) = 20)]) ?_
    refine mi_l_steps cx 1 _ (950, [(3, .int v), (2, .ref 116), (1, .ref 0), (0, .ref mi_RO)], [], (149, 5163), ks i a q r) (by rfl) ?_
    exact ml_comes cx K k A1
  · refine mi_l_eq (x1 := (33, [(3, .int v), (2, .ref 116), (1, .ref 0), (0, .ref mi_RO)], [.int 21], (149, 5163), ks i a q r)) (by rw [(kj_eq hh (by decide) : (z &&& 63) = 21)]) ?_
    refine mi_l_steps cx 1 _ (973, [(3, .int v), (2, .ref 116), (1, .ref 0), (0, .ref mi_RO)], [], (149, 5163), ks i a q r) (by rfl) ?_
    exact ml_evening cx K k 
  · refine mi_l_eq (x1 := (33, [(3, .int v), (2, .ref 116), (1, .ref 0), (0, .ref mi_RO)], [.int 22], (149, 5163), ks i a q r)) (by rw [(kj_eq hh (by decide) : (z &&& 63) = 22)]) ?_
    refine mi_l_steps cx 1 _ (986, [(3, .int v), (2, .ref 116), (1, .ref 0), (0, .ref mi_RO)], [], (149, 5163), ks i a q r) (by rfl) ?_
    exact ml_gives cx K k A1 A2 A3
  · refine mi_l_eq (x1 := (33, [(3, .int v), (2, .ref 116), (1, .ref 0), (0, .ref mi_RO)], [.int 23], (149, 5163), ks i a q r)) (by rw [(kj_eq hh (by decide) : (z &&& 63) = 23)]) ?_
    refine mi_l_steps cx 1 _ (1029, [(3, .int v), (2, .ref 116), (1, .ref 0), (0, .ref mi_RO)], [], (149, 5163), ks i a q r) (by rfl) ?_
    exact ml_led cx K k A1
  · refine mi_l_eq (x1 := (33, [(3, .int v), (2, .ref 116), (1, .ref 0), (0, .ref mi_RO)], [.int 24], (149, 5163), ks i a q r)) (by rw [(kj_eq hh (by decide) : (z &&& 63) = 24)]) ?_
    refine mi_l_steps cx 1 _ (1052, [(3, .int v), (2, .ref 116), (1, .ref 0), (0, .ref mi_RO)], [], (149, 5163), ks i a q r) (by rfl) ?_
    exact ml_image cx K k 
  · refine mi_l_eq (x1 := (33, [(3, .int v), (2, .ref 116), (1, .ref 0), (0, .ref mi_RO)], [.int 25], (149, 5163), ks i a q r)) (by rw [(kj_eq hh (by decide) : (z &&& 63) = 25)]) ?_
    refine mi_l_steps cx 1 _ (1065, [(3, .int v), (2, .ref 116), (1, .ref 0), (0, .ref mi_RO)], [], (149, 5163), ks i a q r) (by rfl) ?_
    exact ml_back cx K k 
  · refine mi_l_eq (x1 := (33, [(3, .int v), (2, .ref 116), (1, .ref 0), (0, .ref mi_RO)], [.int 26], (149, 5163), ks i a q r)) (by rw [(kj_eq hh (by decide) : (z &&& 63) = 26)]) ?_
    refine mi_l_steps cx 1 _ (1078, [(3, .int v), (2, .ref 116), (1, .ref 0), (0, .ref mi_RO)], [], (149, 5163), ks i a q r) (by rfl) ?_
    exact ml_undo cx K k 
  · refine mi_l_eq (x1 := (33, [(3, .int v), (2, .ref 116), (1, .ref 0), (0, .ref mi_RO)], [.int 27], (149, 5163), ks i a q r)) (by rw [(kj_eq hh (by decide) : (z &&& 63) = 27)]) ?_
    refine mi_l_steps cx 1 _ (1091, [(3, .int v), (2, .ref 116), (1, .ref 0), (0, .ref mi_RO)], [], (149, 5163), ks i a q r) (by rfl) ?_
    exact ml_redo cx K k 
  · refine mi_l_eq (x1 := (33, [(3, .int v), (2, .ref 116), (1, .ref 0), (0, .ref mi_RO)], [.int 28], (149, 5163), ks i a q r)) (by rw [(kj_eq hh (by decide) : (z &&& 63) = 28)]) ?_
    refine mi_l_steps cx 1 _ (1104, [(3, .int v), (2, .ref 116), (1, .ref 0), (0, .ref mi_RO)], [], (149, 5163), ks i a q r) (by rfl) ?_
    exact ml_body cx K k A1
  · refine mi_l_eq (x1 := (33, [(3, .int v), (2, .ref 116), (1, .ref 0), (0, .ref mi_RO)], [.int 29], (149, 5163), ks i a q r)) (by rw [(kj_eq hh (by decide) : (z &&& 63) = 29)]) ?_
    refine mi_l_steps cx 1 _ (1127, [(3, .int v), (2, .ref 116), (1, .ref 0), (0, .ref mi_RO)], [], (149, 5163), ks i a q r) (by rfl) ?_
    exact ml_act cx K k A1 A2 A3
  · refine mi_l_eq (x1 := (33, [(3, .int v), (2, .ref 116), (1, .ref 0), (0, .ref mi_RO)], [.int 30], (149, 5163), ks i a q r)) (by rw [(kj_eq hh (by decide) : (z &&& 63) = 30)]) ?_
    refine mi_l_steps cx 1 _ (1170, [(3, .int v), (2, .ref 116), (1, .ref 0), (0, .ref mi_RO)], [], (149, 5163), ks i a q r) (by rfl) ?_
    exact ml_trace cx K k A1
  · refine mi_l_eq (x1 := (33, [(3, .int v), (2, .ref 116), (1, .ref 0), (0, .ref mi_RO)], [.int 31], (149, 5163), ks i a q r)) (by rw [(kj_eq hh (by decide) : (z &&& 63) = 31)]) ?_
    refine mi_l_steps cx 1 _ (1193, [(3, .int v), (2, .ref 116), (1, .ref 0), (0, .ref mi_RO)], [], (149, 5163), ks i a q r) (by rfl) ?_
    exact ml_keep cx K k A1 A2
  · refine mi_l_eq (x1 := (33, [(3, .int v), (2, .ref 116), (1, .ref 0), (0, .ref mi_RO)], [.int 32], (149, 5163), ks i a q r)) (by rw [(kj_eq hh (by decide) : (z &&& 63) = 32)]) ?_
    refine mi_l_steps cx 1 _ (1226, [(3, .int v), (2, .ref 116), (1, .ref 0), (0, .ref mi_RO)], [], (149, 5163), ks i a q r) (by rfl) ?_
    exact ml_row cx K k A1 A2 A3
  · refine mi_l_eq (x1 := (33, [(3, .int v), (2, .ref 116), (1, .ref 0), (0, .ref mi_RO)], [.int 33], (149, 5163), ks i a q r)) (by rw [(kj_eq hh (by decide) : (z &&& 63) = 33)]) ?_
    refine mi_l_steps cx 1 _ (1269, [(3, .int v), (2, .ref 116), (1, .ref 0), (0, .ref mi_RO)], [], (149, 5163), ks i a q r) (by rfl) ?_
    exact ml_put cx K k A1 A2 A3 A4
  · refine mi_l_eq (x1 := (33, [(3, .int v), (2, .ref 116), (1, .ref 0), (0, .ref mi_RO)], [.int 34], (149, 5163), ks i a q r)) (by rw [(kj_eq hh (by decide) : (z &&& 63) = 34)]) ?_
    refine mi_l_steps cx 1 _ (1342, [(3, .int v), (2, .ref 116), (1, .ref 0), (0, .ref mi_RO)], [], (149, 5163), ks i a q r) (by rfl) ?_
    exact ml_element cx K k A1 A2
  · refine mi_l_eq (x1 := (33, [(3, .int v), (2, .ref 116), (1, .ref 0), (0, .ref mi_RO)], [.int 35], (149, 5163), ks i a q r)) (by rw [(kj_eq hh (by decide) : (z &&& 63) = 35)]) ?_
    refine mi_l_steps cx 1 _ (1375, [(3, .int v), (2, .ref 116), (1, .ref 0), (0, .ref mi_RO)], [], (149, 5163), ks i a q r) (by rfl) ?_
    exact ml_shift cx K k A1 A2 A3 A4 A5
  · refine mi_l_eq (x1 := (33, [(3, .int v), (2, .ref 116), (1, .ref 0), (0, .ref mi_RO)], [.int 36], (149, 5163), ks i a q r)) (by rw [(kj_eq hh (by decide) : (z &&& 63) = 36)]) ?_
    refine mi_l_steps cx 1 _ (1438, [(3, .int v), (2, .ref 116), (1, .ref 0), (0, .ref mi_RO)], [], (149, 5163), ks i a q r) (by rfl) ?_
    exact ml_taken cx K k A1 A2
  · refine mi_l_eq (x1 := (33, [(3, .int v), (2, .ref 116), (1, .ref 0), (0, .ref mi_RO)], [.int 37], (149, 5163), ks i a q r)) (by rw [(kj_eq hh (by decide) : (z &&& 63) = 37)]) ?_
    refine mi_l_steps cx 1 _ (1471, [(3, .int v), (2, .ref 116), (1, .ref 0), (0, .ref mi_RO)], [], (149, 5163), ks i a q r) (by rfl) ?_
    exact ml_count cx K k A1
theorem kArg_of {v : Int32} (k : Int32) (n : Int) (hk : k.toInt = n) (h0 : 0 ≤ v.toInt) (hn : 0 ≤ n) (h1 : v.toInt + n < (xl.length : Int)) (hL : xl.length ≤ 3072) : kArg xl (v + k) (xl.getD (v + k).toNatClampNeg 0) := by
  have e : (v + k).toInt = v.toInt + k.toInt := kd_add (by omega) (by omega)
  exact ⟨by omega, by omega, rfl⟩
set_option maxRecDepth 100000 in
set_option maxHeartbeats 4000000 in
theorem ml_loop (cx : mi_CxL p s m c b ra cT D xl) (hr : meth.sig.returnType = ret) (hlocks : meth.locks = false) (hL : xl.length ≤ 3072) : ∀ (n : Nat) (v : Int32) (i : Nat → Int32) (a : Nat → List Int32) (q : Nat → List Int64) (r : Nat → Nat), kAl i a q r → 0 ≤ v.toInt → v.toInt ≤ 4000 → ((xl.length : Int) - v.toInt).toNat < n → mi_LW p l e s m below meth c b ra cT D (18, [(3, .int v), (2, .ref 116), (1, .ref 0), (0, .ref mi_RO)], [], (149, 5163), ks i a q r)
  | 0, v, i, a, q, r, _, _, _, hn => absurd hn (Nat.not_lt_zero _)
  | n + 1, v, i, a, q, r, K, h0, h4, hn => by
    have el : (Int32.ofNat xl.length).toInt = xl.length := Int32.toInt_ofNat_of_lt (by omega)
    have e6 : (Int32.ofNat xl.length - 6).toInt = (xl.length : Int) - 6 := by
      have := kd_sub (x := Int32.ofNat xl.length) (y := 6) (by rw [el, (by decide : (6 : Int32).toInt = 6)]; omega) (by rw [el, (by decide : (6 : Int32).toInt = 6)]; omega)
      rw [this, el, (by decide : (6 : Int32).toInt = 6)]
    by_cases cc : (xl.length : Int) - 6 < v.toInt
    · exact mk_at18 cx true (decide_eq_true (Int32.lt_iff_toInt_lt.mpr (by omega))) (mk_out cx hr hlocks)
    · refine mk_at18 cx false (decide_eq_false (fun z => by have := Int32.lt_iff_toInt_lt.mp z; omega)) ?_
      show mi_LW p l e s m below meth c b ra cT D (27, [(3, .int v), (2, .ref 116), (1, .ref 0), (0, .ref mi_RO)], [], (149, 5163), ks i a q r)
      refine mi_l_steps cx 2 _ (29, [(3, .int v), (2, .ref 116), (1, .ref 0), (0, .ref mi_RO)], [.int v, .ref mi_RO], (149, 5163), ks i a q r) (by rfl) ?_
      refine mi_l_iald cx (ax := (0, 0, 0, 0, 0)) (x := xl.getD v.toNatClampNeg 0) (by rfl) ⟨h0, by omega, rfl⟩ ?_
      refine mi_l_steps cx 2 _ (33, [(3, .int v), (2, .ref 116), (1, .ref 0), (0, .ref mi_RO)], [.int (xl.getD v.toNatClampNeg 0 &&& 63)], (149, 5163), ks i a q r) (by rfl) ?_
      refine ml_six cx K (fun i1 a1 q1 r1 K1 => ?_) (kArg_of 1 1 (by decide) h0 (by decide) (by omega) hL) (kArg_of 2 2 (by decide) h0 (by decide) (by omega) hL) (kArg_of 3 3 (by decide) h0 (by decide) (by omega) hL) (kArg_of 4 4 (by decide) h0 (by decide) (by omega) hL) (kArg_of 5 5 (by decide) h0 (by decide) (by omega) hL)
      have ev : (v + 6).toInt = v.toInt + 6 := by
        have := kd_add (x := v) (y := 6) (by rw [(by decide : (6 : Int32).toInt = 6)]; omega) (by rw [(by decide : (6 : Int32).toInt = 6)]; omega)
        rw [this, (by decide : (6 : Int32).toInt = 6)]
      refine mi_l_steps cx 2 _ (18, [(3, .int (v + 6)), (2, .ref 116), (1, .ref 0), (0, .ref mi_RO)], [], (149, 5163), ks i1 a1 q1 r1) (by rfl) ?_
      exact ml_loop cx hr hlocks hL n (v + 6) i1 a1 q1 r1 K1 (by omega) (by omega) (by omega)
set_option maxRecDepth 100000 in
set_option maxHeartbeats 4000000 in
theorem ml_begin (cx : mi_CxL p s m c b ra cT D xl) (k : mi_LW p l e s m below meth c b ra cT D (18, [(3, .int 0), (2, .ref 116), (1, .ref 0), (0, .ref mi_RO)], [], (149, 5163), mi_G)) : mi_LW p l e s m below meth c b ra cT D (0, [(0, .ref mi_RO)], [], (0, 0), []) := by
  have M1 : mi_Met mi_N0 6 mi_h79 [.ref 0] [.inl (8, mi_df 8)] none (mi_G.take 116) := mi_fun_ok mi_N0 6 79 (mi_h79, mi_c79) _ _ _ _ rfl mi_G1
  have M2 : mi_Met mi_N0 6 mi_h130 [.ref 116] (mi_G.take 116 ++ [.inl (9, mi_df 9)]) none mi_G := mi_fun_ok mi_N0 6 130 (mi_h130, mi_c130) _ _ _ _ rfl mi_G2
  refine mi_l_steps cx 2 _ (4, [(0, .ref mi_RO)], [.ref 0, .ref 0], (1, 8), [.inl (8, mi_df 8)]) (by rfl) ?_
  refine mi_l_call cx (i := (.invokespecial 9, 3, 79, 0, 9, 0, 1)) (by rfl) (by rfl) M1 (by decide) ⟨rfl, rfl⟩ ?_
  refine mi_l_steps cx 3 _ (12, [(1, .ref 0), (0, .ref mi_RO)], [.ref 116, .ref 116], (117, 2964), mi_G.take 116 ++ [.inl (9, mi_df 9)]) (by rfl) ?_
  refine mi_l_call cx (i := (.invokespecial 12, 3, 130, 0, 9, 0, 322)) (by rfl) (by rfl) M2 (by decide) ⟨rfl, rfl⟩ ?_
  refine mi_l_steps cx 3 _ (18, [(3, .int 0), (2, .ref 116), (1, .ref 0), (0, .ref mi_RO)], [], (149, 5163), mi_G) (by rfl) ?_
  exact k

theorem ml_all (cx : mi_CxL p s m c b ra cT D xl) (hr : meth.sig.returnType = ret) (hlocks : meth.locks = false) (hL : xl.length ≤ 3072) : mi_LW p l e s m below meth c b ra cT D (0, [(0, .ref mi_RO)], [], (0, 0), []) := by
  refine ml_begin cx ?_
  rw [kst_eq]
  exact ml_loop cx hr hlocks hL 4000 0 _ _ _ _ kst_al (by decide) (by decide) (by rw [(by decide : (0 : Int32).toInt = 0)]; omega)
end MIL
