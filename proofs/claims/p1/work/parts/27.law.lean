/-! THE LAW: its own steps, and the calls out of the cases -/
def mi_NL (xl : List Int32) : mi_N := (mi_N0.1, fun j => match j with
  | 0 => some (.int, xl)
  | k => mi_N0.2.1 k, mi_N0.2.2)
theorem mi_Ext_mono {xl : List Int32} {base : Nat} {ra : Nat → Nat} {cT : FieldType → ClassId} {A : Nat → Prop} {U : State} {H : Heap} (h : mi_Ext (mi_NL xl) base ra cT A U H) : mi_Ext mi_N0 base ra cT A U H := by
  obtain ⟨h1, h2, h3⟩ := h
  refine ⟨h1, fun j ty l hj => ?_, h3⟩
  match j, hj with
  | 0, hj => cases hj
  | j + 1, hj => exact h2 (j + 1) ty l hj
theorem mi_Met_mono {xl : List Int32} {d : Nat} {r : mi_M} {as : List Value} {h : mi_H} {rv : Option Value} {h1 : mi_H} (hM : mi_Met mi_N0 d r as h rv h1) : mi_Met (mi_NL xl) d r as h rv h1 := by
  intro l base ra cT D p e ha hf hc s m args below hfr happ hP hK
  exact hM l base ra cT D p e ha hf hc s m args below hfr happ ⟨hP.1, hP.2.1, mi_Ext_mono hP.2.2⟩ hK
theorem mi_P_int {yx yr : Nat} {as : List Value} (h : mi_P yx yr as) (ne : Nat.beq yx 116 = false) {qx qr : mi_M × List (Nat × mi_I)} (hx : mi_prog[yx]? = some qx) (hr : mi_prog[yr]? = some qr) : ∃ (r : Int32) (h1 h2 : mi_H) (dx dr : Nat), mi_is9 h1 = true ∧ dx ≤ 100 ∧ dr ≤ 100 ∧ mi_Met mi_N0 dx qx.1 (.ref 0 :: as) mi_G (some (.int r)) h1 ∧ mi_Met mi_N0 dr qr.1 (.ref 116 :: as) h1 (some (.int r)) h2 := by
  obtain ⟨rv, h1, h2, q1, q2, dx, dr, kv, e1, e2, b1, b2, Mx, Mr⟩ := h
  rw [hx] at e1
  rw [hr] at e2
  cases e1
  cases e2
  obtain ⟨kv, k9⟩ := Bool.and_eq_true_iff.mp kv
  cases rv with
  | int r => exact ⟨r, h1, h2, dx, dr, k9, b1, b2, Mx, Mr⟩
  | long r => rw [show mi_kv yx (.long r) = Nat.beq yx 116 from rfl, ne] at kv; cases kv
  | float r => cases kv
  | double r => cases kv
  | null => cases kv
  | ref a => cases kv
  | retAddr a => cases kv
theorem mi_P_long {yx yr : Nat} {as : List Value} (h : mi_P yx yr as) (ne : Nat.beq yx 116 = true) {qx qr : mi_M × List (Nat × mi_I)} (hx : mi_prog[yx]? = some qx) (hr : mi_prog[yr]? = some qr) : ∃ (r : Int64) (h1 h2 : mi_H) (dx dr : Nat), mi_is9 h1 = true ∧ dx ≤ 100 ∧ dr ≤ 100 ∧ mi_Met mi_N0 dx qx.1 (.ref 0 :: as) mi_G (some (.long r)) h1 ∧ mi_Met mi_N0 dr qr.1 (.ref 116 :: as) h1 (some (.long r)) h2 := by
  obtain ⟨rv, h1, h2, q1, q2, dx, dr, kv, e1, e2, b1, b2, Mx, Mr⟩ := h
  rw [hx] at e1
  rw [hr] at e2
  cases e1
  cases e2
  obtain ⟨kv, k9⟩ := Bool.and_eq_true_iff.mp kv
  cases rv with
  | int r => rw [show mi_kv yx (.int r) = !(Nat.beq yx 116) from rfl, ne] at kv; cases kv
  | long r => exact ⟨r, h1, h2, dx, dr, k9, b1, b2, Mx, Mr⟩
  | float r => cases kv
  | double r => cases kv
  | null => cases kv
  | ref a => cases kv
  | retAddr a => cases kv
abbrev mi_qL : mi_M × List (Nat × mi_I) := (mi_h235, mi_cL)
section MIL
variable {p : Program} {l : Launch} {e : Env} {s : State} {m : MethodId} {below : List Frame} {meth : Method} {c : Code} {b : Nat} {ra : Nat → Nat} {cT : FieldType → ClassId} {D : va_G} {xl : List Int32}
def mi_LW (p : Program) (l : Launch) (e : Env) (s : State) (m : MethodId) (below : List Frame) (meth : Method) (c : Code) (b : Nat) (ra : Nat → Nat) (cT : FieldType → ClassId) (D : va_G) (x : mi_S) : Prop :=
  mi_Wq s.heap.size ra cT D 4 p l e room_1 s m #[Value.ref b] below meth c (lw_Z below #[Value.ref b] s) x.1 x.2.1 x.2.2.1 x.2.2.2.1 x.2.2.2.2
abbrev mi_CxL (p : Program) (s : State) (m : MethodId) (c : Code) (b : Nat) (ra : Nat → Nat) (cT : FieldType → ClassId) (D : va_G) (xl : List Int32) : Prop := mi_Cx (mi_NL xl) s.heap.size ra cT D 204 (mi_bytes mi_h235) 4 p s m #[Value.ref b] c
theorem mi_l_step (cx : mi_CxL p s m c b ra cT D xl) {x x1 : mi_S} (hx : mi_step (mi_NL xl) (fun _ _ _ => none) mi_qL x = some (.inl x1)) (k : mi_LW p l e s m below meth c b ra cT D x1) : mi_LW p l e s m below meth c b ra cT D x :=
  mi_step_ok (R := room_1) mi_in235 cx (fun z => by cases z) ⟨Nat.le_of_ble_eq_true rfl, Nat.le_of_ble_eq_true rfl⟩ (d := 1000) ⟨Nat.le_of_ble_eq_true rfl, Nat.le_of_ble_eq_true rfl⟩ (mi_calok_none _ _) hx k
theorem mi_l_steps (cx : mi_CxL p s m c b ra cT D xl) : ∀ (n : Nat) (x x1 : mi_S), mi_steps (mi_NL xl) (fun _ _ _ => none) mi_qL n x = some x1 → mi_LW p l e s m below meth c b ra cT D x1 → mi_LW p l e s m below meth c b ra cT D x
  | 0, x, x1, h, k => by cases h; exact k
  | n + 1, x, x1, h, k => by
    have h : (match mi_step (mi_NL xl) (fun _ _ _ => none) mi_qL x with
      | some (.inl x2) => mi_steps (mi_NL xl) (fun _ _ _ => none) mi_qL n x2
      | _ => none) = some x1 := h
    split at h
    next x2 hx => exact mi_l_step cx hx (mi_l_steps cx n x2 x1 h k)
    next => cases h
theorem mi_l_eq {x x1 : mi_S} (h : x = x1) (k : mi_LW p l e s m below meth c b ra cT D x1) : mi_LW p l e s m below meth c b ra cT D x := h ▸ k
theorem mi_l_b (cx : mi_CxL p s m c b ra cT D xl) {x : mi_S} (cb bb : Bool) (hb : cb = bb) (t u : Nat) (z : mi_L × List Value × (Nat × Nat) × mi_H) (hx : mi_step (mi_NL xl) (fun _ _ _ => none) mi_qL x = some (.inl (bif cb then t else u, z))) (k : mi_LW p l e s m below meth c b ra cT D (bif bb then t else u, z)) : mi_LW p l e s m below meth c b ra cT D x := by
  subst hb
  exact mi_l_step cx hx k
theorem mi_l_call (cx : mi_CxL p s m c b ra cT D xl) {x : mi_S} {i : mi_I} (hf : mi_find mi_cL x.1 = some i) {y : Nat} {r : mi_M} {as rest : List Value} (hi : mi_inv (mi_NL xl) i.1 i.2.2 x.2.2.1 x.2.2.2.2 = some (y, r, as, rest)) {d1 : Nat} {rv1 : Option Value} {h2 : mi_H} (hM : mi_Met mi_N0 d1 r as x.2.2.2.2 rv1 h2) (hd : d1 ≤ 100) (hc : Nat.ble (x.2.2.2.1.1 + r.2.2.2.2.2.2.2.1) 149 = true ∧ Nat.ble (x.2.2.2.1.2 + r.2.2.2.2.2.2.2.2) 5163 = true)
    (k : mi_LW p l e s m below meth c b ra cT D (x.1 + 3, x.2.1, rv1.toList ++ rest, (x.2.2.2.1.1 + r.2.2.2.2.2.2.2.1, x.2.2.2.1.2 + r.2.2.2.2.2.2.2.2), h2)) : mi_LW p l e s m below meth c b ra cT D x := by
  obtain ⟨hdc, hlen, hok⟩ := mi_prog_in mi_in235 hf
  have h1 := Nat.le_of_ble_eq_true hc.1
  have h2 := Nat.le_of_ble_eq_true hc.2
  exact mi_inv_ok (R := room_1) cx hdc hlen hok hi (mi_Met_mono hM) ⟨by show d1 + 2 ≤ 2048; omega, by show 60 * d1 + 120 ≤ 84000; omega⟩ ⟨by show _ ≤ 600000; omega, by show _ ≤ 7302250; omega⟩ k
theorem mi_l_sw (cx : mi_CxL p s m c b ra cT D xl) {pc : Nat} {ls : mi_L} {r : List Value} {cn : Nat × Nat} {h : mi_H} {v : Int32} {i : mi_I} {dd lo hi : Int} {offs : Array Int} (hf : mi_find mi_cL pc = some i) (hi0 : i.1 = .tableswitch dd lo hi offs) (hv : v.toInt < lo ∨ hi < v.toInt) (t : Nat) (ht : mi_to pc dd = some t) (k : mi_LW p l e s m below meth c b ra cT D (t, ls, r, cn, h)) : mi_LW p l e s m below meth c b ra cT D (pc, ls, .int v :: r, cn, h) := by
  refine mi_l_step cx (x1 := (t, ls, r, cn, h)) ?_ k
  unfold mi_step
  dsimp only
  rw [hf]
  dsimp only
  rw [hi0]
  have e : mi_pure (.tableswitch dd lo hi offs) pc mi_h235.2.2.1 ls (.int v :: r) = some (t, ls, r) := by
    simp only [mi_pure]
    rw [decide_eq_true hv]
    dsimp only
    rw [ht]
  rw [e]
set_option maxRecDepth 100000 in
set_option maxHeartbeats 4000000 in
theorem mi_l_fin (cx : mi_CxL p s m c b ra cT D xl) (hr : meth.sig.returnType = ret) (hlocks : meth.locks = false) {ls : mi_L} {h : mi_H} {cn : Nat × Nat} (hc : cn.1 ≤ 600000 ∧ cn.2 ≤ 7302250) : mi_LW p l e s m below meth c b ra cT D (1502, ls, [.int 1], cn, h) := by
  intro H locs ar hsz hP hKA hS har
  refine va_forget (fun q hq => hS.2.2 q hq) ?_
  refine W.widen (k := 600000) (n := 7302250) hc.1 hc.2 ?_
  have hd := (mi_prog_in mi_in235 (pc := 1502) (i := (.ireturn, 1, 0, 0, 0, 0, 0)) (by rfl)).1
  exact lw_ret cx.1 cx.2.1 hr hlocks hd
theorem mi_is9_ok {h : mi_H} (h9 : mi_is9 h = true) : ∃ q : Nat × List Value, h[116]? = some (.inl q) ∧ q.1 = 9 := by
  unfold mi_is9 at h9
  split at h9
  next q e => exact ⟨q, e, Nat.eq_of_beq_eq_true h9⟩
  next => cases h9
set_option maxRecDepth 100000 in
set_option maxHeartbeats 4000000 in
theorem mi_l_inv {N : mi_N} {i : Nat} {ax : mi_X} {st rest : List Value} {h : mi_H} {r : mi_M} (h9 : mi_is9 h = true) (hr : mi_heads[ax.1]? = some r) (hd : st.drop r.2.2.2.2.2.1 = .ref 116 :: rest) : mi_inv N (.invokevirtual i) ax st h = mi_inv N (.invokevirtual i) ax st mi_G := by
  obtain ⟨q, hq, eq⟩ := mi_is9_ok h9
  obtain ⟨q1, hq1, eq1⟩ := mi_is9_ok (h := mi_G) (by rfl)
  have hb : Nat.blt 116 mi_RO = true := rfl
  unfold mi_inv
  dsimp only
  rw [hr]
  dsimp only
  rw [hd]
  dsimp only
  rw [hb]
  dsimp only
  rw [hq, hq1]
  dsimp only
  rw [eq, eq1]
theorem mi_l_and (a : Int32) : 0 ≤ (a &&& 63).toInt ∧ (a &&& 63).toInt ≤ 63 := by
  obtain ⟨j, hj, e⟩ := pk_andE a (m := 63) 6 (by decide)
  rw [e, nI_toInt (by omega)]
  omega
theorem mi_l_cmp (r : Int64) : lg_cmp r r = 0 := by
  have h : ¬ r < r := Int64.lt_irrefl
  simp [lg_cmp, h]
set_option maxRecDepth 100000 in
set_option maxHeartbeats 4000000 in
theorem mk_at18 (cx : mi_CxL p s m c b ra cT D xl) {v : Int32} {h : mi_H} (bb : Bool) (hb : decide (Int32.ofNat xl.length - 6 < v) = bb) (k : mi_LW p l e s m below meth c b ra cT D (bif bb then 1501 else 27, [(3, .int v), (2, .ref 116), (1, .ref 0), (0, .ref mi_RO)], [], (149, 5163), h)) : mi_LW p l e s m below meth c b ra cT D (18, [(3, .int v), (2, .ref 116), (1, .ref 0), (0, .ref mi_RO)], [], (149, 5163), h) := by
  refine mi_l_steps cx 5 _ (24, [(3, .int v), (2, .ref 116), (1, .ref 0), (0, .ref mi_RO)], [.int (Int32.ofNat xl.length - 6), .int v], (149, 5163), h) (by rfl) ?_
  exact mi_l_b cx (decide (Int32.ofNat xl.length - 6 < v)) bb hb 1501 27 ([(3, .int v), (2, .ref 116), (1, .ref 0), (0, .ref mi_RO)], [], (149, 5163), h) (by rfl) k
set_option maxRecDepth 100000 in
set_option maxHeartbeats 4000000 in
theorem mk_out (cx : mi_CxL p s m c b ra cT D xl) (hr : meth.sig.returnType = ret) (hlocks : meth.locks = false) {v : Int32} {h : mi_H} : mi_LW p l e s m below meth c b ra cT D (1501, [(3, .int v), (2, .ref 116), (1, .ref 0), (0, .ref mi_RO)], [], (149, 5163), h) := by
  refine mi_l_steps cx 1 _ (1502, [(3, .int v), (2, .ref 116), (1, .ref 0), (0, .ref mi_RO)], [.int 1], (149, 5163), h) (by rfl) ?_
  exact mi_l_fin cx hr hlocks ⟨by decide, by decide⟩
set_option maxRecDepth 100000 in
set_option maxHeartbeats 4000000 in
theorem mk_tail (cx : mi_CxL p s m c b ra cT D xl) (hL : xl.length ≤ 6) (hr : meth.sig.returnType = ret) (hlocks : meth.locks = false) {h : mi_H} : mi_LW p l e s m below meth c b ra cT D (1495, [(3, .int 0), (2, .ref 116), (1, .ref 0), (0, .ref mi_RO)], [], (149, 5163), h) := by
  refine mi_l_steps cx 1 _ (1498, [(3, .int (0 + 6)), (2, .ref 116), (1, .ref 0), (0, .ref mi_RO)], [], (149, 5163), h) (by rfl) ?_
  refine mi_l_eq (x1 := (1498, [(3, .int 6), (2, .ref 116), (1, .ref 0), (0, .ref mi_RO)], [], (149, 5163), h)) (by rw [show (0 + 6 : Int32) = 6 from by decide]) ?_
  refine mi_l_steps cx 1 _ (18, [(3, .int 6), (2, .ref 116), (1, .ref 0), (0, .ref mi_RO)], [], (149, 5163), h) (by rfl) ?_
  refine mk_at18 cx true ?_ (mk_out cx hr hlocks)
  have : ∀ n : Nat, n < 7 → decide (Int32.ofNat n - 6 < 6) = true := by decide
  exact this _ (by omega)
set_option maxRecDepth 100000 in
set_option maxHeartbeats 4000000 in
theorem ml_buyer {a0 a1 a2 a3 a4 a5 : Int32} (cx : mi_CxL p s m c b ra cT D [a0, a1, a2, a3, a4, a5]) (hr : meth.sig.returnType = ret) (hlocks : meth.locks = false) (hk : (a0 &&& 63) = 0) : mi_LW p l e s m below meth c b ra cT D (33, [(3, .int 0), (2, .ref 116), (1, .ref 0), (0, .ref mi_RO)], [.int (a0 &&& 63)], (149, 5163), mi_G) := by
  obtain ⟨r, h1, h2, dx, dr, h9, hdx, hdr, Mx, Mr⟩ := mi_P_int (mp_buyer a1 a2) rfl (qx := (mi_h80, mi_c80)) (qr := (mi_h135, mi_c135)) rfl rfl
  refine mi_l_eq (x1 := (33, [(3, .int 0), (2, .ref 116), (1, .ref 0), (0, .ref mi_RO)], [.int 0], (149, 5163), mi_G)) (by rw [hk]) ?_
  refine mi_l_steps cx 12 _ (211, [(3, .int 0), (2, .ref 116), (1, .ref 0), (0, .ref mi_RO)], [.int a2, .int a1, .ref 0], (149, 5163), mi_G) (by rfl) ?_
  refine mi_l_call cx (i := (.invokevirtual 13, 3, 80, 0, 9, 0, 150)) (by rfl) (by rfl) Mx hdx ⟨rfl, rfl⟩ ?_
  refine mi_l_steps cx 11 _ (225, [(3, .int 0), (2, .ref 116), (1, .ref 0), (0, .ref mi_RO)], [.int a2, .int a1, .ref 116, .int r], (149, 5163), h1) (by rfl) ?_
  refine mi_l_call cx (i := (.invokevirtual 17, 3, 135, 0, 9, 0, 378)) (by rfl) ((mi_l_inv h9 rfl rfl).trans (by rfl)) Mr hdr ⟨rfl, rfl⟩ ?_
  refine mi_l_b cx (r == r) true (beq_self_eq_true r) 1495 231 ([(3, .int 0), (2, .ref 116), (1, .ref 0), (0, .ref mi_RO)], [], (149, 5163), h2) (by rfl) ?_
  exact mk_tail cx (Nat.le_refl 6) hr hlocks
set_option maxRecDepth 100000 in
set_option maxHeartbeats 4000000 in
theorem ml_buyers {a0 a1 a2 a3 a4 a5 : Int32} (cx : mi_CxL p s m c b ra cT D [a0, a1, a2, a3, a4, a5]) (hr : meth.sig.returnType = ret) (hlocks : meth.locks = false) (hk : (a0 &&& 63) = 1) : mi_LW p l e s m below meth c b ra cT D (33, [(3, .int 0), (2, .ref 116), (1, .ref 0), (0, .ref mi_RO)], [.int (a0 &&& 63)], (149, 5163), mi_G) := by
  obtain ⟨r, h1, h2, dx, dr, h9, hdx, hdr, Mx, Mr⟩ := mi_P_int (mp_buyers a1 a2 a3) rfl (qx := (mi_h81, mi_c81)) (qr := (mi_h136, mi_c136)) rfl rfl
  refine mi_l_eq (x1 := (33, [(3, .int 0), (2, .ref 116), (1, .ref 0), (0, .ref mi_RO)], [.int 1], (149, 5163), mi_G)) (by rw [hk]) ?_
  refine mi_l_steps cx 17 _ (249, [(3, .int 0), (2, .ref 116), (1, .ref 0), (0, .ref mi_RO)], [.int a3, .int a2, .int a1, .ref 0], (149, 5163), mi_G) (by rfl) ?_
  refine mi_l_call cx (i := (.invokevirtual 18, 3, 81, 0, 9, 0, 156)) (by rfl) (by rfl) Mx hdx ⟨rfl, rfl⟩ ?_
  refine mi_l_steps cx 16 _ (268, [(3, .int 0), (2, .ref 116), (1, .ref 0), (0, .ref mi_RO)], [.int a3, .int a2, .int a1, .ref 116, .int r], (149, 5163), h1) (by rfl) ?_
  refine mi_l_call cx (i := (.invokevirtual 22, 3, 136, 0, 9, 0, 381)) (by rfl) ((mi_l_inv h9 rfl rfl).trans (by rfl)) Mr hdr ⟨rfl, rfl⟩ ?_
  refine mi_l_b cx (r == r) true (beq_self_eq_true r) 1495 274 ([(3, .int 0), (2, .ref 116), (1, .ref 0), (0, .ref mi_RO)], [], (149, 5163), h2) (by rfl) ?_
  exact mk_tail cx (Nat.le_refl 6) hr hlocks
set_option maxRecDepth 100000 in
set_option maxHeartbeats 4000000 in
theorem ml_mend {a0 a1 a2 a3 a4 a5 : Int32} (cx : mi_CxL p s m c b ra cT D [a0, a1, a2, a3, a4, a5]) (hr : meth.sig.returnType = ret) (hlocks : meth.locks = false) (hk : (a0 &&& 63) = 2) : mi_LW p l e s m below meth c b ra cT D (33, [(3, .int 0), (2, .ref 116), (1, .ref 0), (0, .ref mi_RO)], [.int (a0 &&& 63)], (149, 5163), mi_G) := by
  obtain ⟨r, h1, h2, dx, dr, h9, hdx, hdr, Mx, Mr⟩ := mi_P_int (mp_mend a1 a2 a3) rfl (qx := (mi_h83, mi_c83)) (qr := (mi_h142, mi_c142)) rfl rfl
  refine mi_l_eq (x1 := (33, [(3, .int 0), (2, .ref 116), (1, .ref 0), (0, .ref mi_RO)], [.int 2], (149, 5163), mi_G)) (by rw [hk]) ?_
  refine mi_l_steps cx 17 _ (292, [(3, .int 0), (2, .ref 116), (1, .ref 0), (0, .ref mi_RO)], [.int a3, .int a2, .int a1, .ref 0], (149, 5163), mi_G) (by rfl) ?_
  refine mi_l_call cx (i := (.invokevirtual 23, 3, 83, 0, 9, 0, 160)) (by rfl) (by rfl) Mx hdx ⟨rfl, rfl⟩ ?_
  refine mi_l_steps cx 16 _ (311, [(3, .int 0), (2, .ref 116), (1, .ref 0), (0, .ref mi_RO)], [.int a3, .int a2, .int a1, .ref 116, .int r], (149, 5163), h1) (by rfl) ?_
  refine mi_l_call cx (i := (.invokevirtual 26, 3, 142, 0, 9, 0, 385)) (by rfl) ((mi_l_inv h9 rfl rfl).trans (by rfl)) Mr hdr ⟨rfl, rfl⟩ ?_
  refine mi_l_b cx (r == r) true (beq_self_eq_true r) 1495 317 ([(3, .int 0), (2, .ref 116), (1, .ref 0), (0, .ref mi_RO)], [], (149, 5163), h2) (by rfl) ?_
  exact mk_tail cx (Nat.le_refl 6) hr hlocks
set_option maxRecDepth 100000 in
set_option maxHeartbeats 4000000 in
theorem ml_of {a0 a1 a2 a3 a4 a5 : Int32} (cx : mi_CxL p s m c b ra cT D [a0, a1, a2, a3, a4, a5]) (hr : meth.sig.returnType = ret) (hlocks : meth.locks = false) (hk : (a0 &&& 63) = 3) : mi_LW p l e s m below meth c b ra cT D (33, [(3, .int 0), (2, .ref 116), (1, .ref 0), (0, .ref mi_RO)], [.int (a0 &&& 63)], (149, 5163), mi_G) := by
  obtain ⟨r, h1, h2, dx, dr, h9, hdx, hdr, Mx, Mr⟩ := mi_P_int (mp_of a1 a2) rfl (qx := (mi_h84, mi_c84)) (qr := (mi_h143, mi_c143)) rfl rfl
  refine mi_l_eq (x1 := (33, [(3, .int 0), (2, .ref 116), (1, .ref 0), (0, .ref mi_RO)], [.int 3], (149, 5163), mi_G)) (by rw [hk]) ?_
  refine mi_l_steps cx 12 _ (330, [(3, .int 0), (2, .ref 116), (1, .ref 0), (0, .ref mi_RO)], [.int a2, .int a1, .ref 0], (149, 5163), mi_G) (by rfl) ?_
  refine mi_l_call cx (i := (.invokevirtual 27, 3, 84, 0, 9, 0, 171)) (by rfl) (by rfl) Mx hdx ⟨rfl, rfl⟩ ?_
  refine mi_l_steps cx 11 _ (344, [(3, .int 0), (2, .ref 116), (1, .ref 0), (0, .ref mi_RO)], [.int a2, .int a1, .ref 116, .int r], (149, 5163), h1) (by rfl) ?_
  refine mi_l_call cx (i := (.invokevirtual 30, 3, 143, 0, 9, 0, 391)) (by rfl) ((mi_l_inv h9 rfl rfl).trans (by rfl)) Mr hdr ⟨rfl, rfl⟩ ?_
  refine mi_l_b cx (r == r) true (beq_self_eq_true r) 1495 350 ([(3, .int 0), (2, .ref 116), (1, .ref 0), (0, .ref mi_RO)], [], (149, 5163), h2) (by rfl) ?_
  exact mk_tail cx (Nat.le_refl 6) hr hlocks
set_option maxRecDepth 100000 in
set_option maxHeartbeats 4000000 in
theorem ml_feed {a0 a1 a2 a3 a4 a5 : Int32} (cx : mi_CxL p s m c b ra cT D [a0, a1, a2, a3, a4, a5]) (hr : meth.sig.returnType = ret) (hlocks : meth.locks = false) (hk : (a0 &&& 63) = 4) : mi_LW p l e s m below meth c b ra cT D (33, [(3, .int 0), (2, .ref 116), (1, .ref 0), (0, .ref mi_RO)], [.int (a0 &&& 63)], (149, 5163), mi_G) := by
  obtain ⟨r, h1, h2, dx, dr, h9, hdx, hdr, Mx, Mr⟩ := mi_P_int (mp_feed a1) rfl (qx := (mi_h85, mi_c85)) (qr := (mi_h146, mi_c146)) rfl rfl
  refine mi_l_eq (x1 := (33, [(3, .int 0), (2, .ref 116), (1, .ref 0), (0, .ref mi_RO)], [.int 4], (149, 5163), mi_G)) (by rw [hk]) ?_
  refine mi_l_steps cx 7 _ (358, [(3, .int 0), (2, .ref 116), (1, .ref 0), (0, .ref mi_RO)], [.int a1, .ref 0], (149, 5163), mi_G) (by rfl) ?_
  refine mi_l_call cx (i := (.invokevirtual 31, 3, 85, 0, 9, 0, 172)) (by rfl) (by rfl) Mx hdx ⟨rfl, rfl⟩ ?_
  refine mi_l_steps cx 6 _ (367, [(3, .int 0), (2, .ref 116), (1, .ref 0), (0, .ref mi_RO)], [.int a1, .ref 116, .int r], (149, 5163), h1) (by rfl) ?_
  refine mi_l_call cx (i := (.invokevirtual 35, 3, 146, 0, 9, 0, 394)) (by rfl) ((mi_l_inv h9 rfl rfl).trans (by rfl)) Mr hdr ⟨rfl, rfl⟩ ?_
  refine mi_l_b cx (r == r) true (beq_self_eq_true r) 1495 373 ([(3, .int 0), (2, .ref 116), (1, .ref 0), (0, .ref mi_RO)], [], (149, 5163), h2) (by rfl) ?_
  exact mk_tail cx (Nat.le_refl 6) hr hlocks
set_option maxRecDepth 100000 in
set_option maxHeartbeats 4000000 in
theorem ml_law {a0 a1 a2 a3 a4 a5 : Int32} (cx : mi_CxL p s m c b ra cT D [a0, a1, a2, a3, a4, a5]) (hr : meth.sig.returnType = ret) (hlocks : meth.locks = false) (hk : (a0 &&& 63) = 5) : mi_LW p l e s m below meth c b ra cT D (33, [(3, .int 0), (2, .ref 116), (1, .ref 0), (0, .ref mi_RO)], [.int (a0 &&& 63)], (149, 5163), mi_G) := by
  obtain ⟨r, h1, h2, dx, dr, h9, hdx, hdr, Mx, Mr⟩ := mi_P_int (mp_law ) rfl (qx := (mi_h86, mi_c86)) (qr := (mi_h159, mi_c159)) rfl rfl
  refine mi_l_eq (x1 := (33, [(3, .int 0), (2, .ref 116), (1, .ref 0), (0, .ref mi_RO)], [.int 5], (149, 5163), mi_G)) (by rw [hk]) ?_
  refine mi_l_steps cx 2 _ (376, [(3, .int 0), (2, .ref 116), (1, .ref 0), (0, .ref mi_RO)], [.ref 0], (149, 5163), mi_G) (by rfl) ?_
  refine mi_l_call cx (i := (.invokevirtual 36, 3, 86, 0, 9, 0, 174)) (by rfl) (by rfl) Mx hdx ⟨rfl, rfl⟩ ?_
  refine mi_l_steps cx 1 _ (380, [(3, .int 0), (2, .ref 116), (1, .ref 0), (0, .ref mi_RO)], [.ref 116, .int r], (149, 5163), h1) (by rfl) ?_
  refine mi_l_call cx (i := (.invokevirtual 40, 3, 159, 0, 9, 0, 395)) (by rfl) ((mi_l_inv h9 rfl rfl).trans (by rfl)) Mr hdr ⟨rfl, rfl⟩ ?_
  refine mi_l_b cx (r == r) true (beq_self_eq_true r) 1495 386 ([(3, .int 0), (2, .ref 116), (1, .ref 0), (0, .ref mi_RO)], [], (149, 5163), h2) (by rfl) ?_
  exact mk_tail cx (Nat.le_refl 6) hr hlocks
set_option maxRecDepth 100000 in
set_option maxHeartbeats 4000000 in
theorem ml_book {a0 a1 a2 a3 a4 a5 : Int32} (cx : mi_CxL p s m c b ra cT D [a0, a1, a2, a3, a4, a5]) (hr : meth.sig.returnType = ret) (hlocks : meth.locks = false) (hk : (a0 &&& 63) = 6) : mi_LW p l e s m below meth c b ra cT D (33, [(3, .int 0), (2, .ref 116), (1, .ref 0), (0, .ref mi_RO)], [.int (a0 &&& 63)], (149, 5163), mi_G) := by
  obtain ⟨r, h1, h2, dx, dr, h9, hdx, hdr, Mx, Mr⟩ := mi_P_int (mp_book a1 a2) rfl (qx := (mi_h87, mi_c87)) (qr := (mi_h164, mi_c164)) rfl rfl
  refine mi_l_eq (x1 := (33, [(3, .int 0), (2, .ref 116), (1, .ref 0), (0, .ref mi_RO)], [.int 6], (149, 5163), mi_G)) (by rw [hk]) ?_
  refine mi_l_steps cx 12 _ (399, [(3, .int 0), (2, .ref 116), (1, .ref 0), (0, .ref mi_RO)], [.int a2, .int a1, .ref 0], (149, 5163), mi_G) (by rfl) ?_
  refine mi_l_call cx (i := (.invokevirtual 41, 3, 87, 0, 9, 0, 206)) (by rfl) (by rfl) Mx hdx ⟨rfl, rfl⟩ ?_
  refine mi_l_steps cx 11 _ (413, [(3, .int 0), (2, .ref 116), (1, .ref 0), (0, .ref mi_RO)], [.int a2, .int a1, .ref 116, .int r], (149, 5163), h1) (by rfl) ?_
  refine mi_l_call cx (i := (.invokevirtual 44, 3, 164, 0, 9, 0, 408)) (by rfl) ((mi_l_inv h9 rfl rfl).trans (by rfl)) Mr hdr ⟨rfl, rfl⟩ ?_
  refine mi_l_b cx (r == r) true (beq_self_eq_true r) 1495 419 ([(3, .int 0), (2, .ref 116), (1, .ref 0), (0, .ref mi_RO)], [], (149, 5163), h2) (by rfl) ?_
  exact mk_tail cx (Nat.le_refl 6) hr hlocks
set_option maxRecDepth 100000 in
set_option maxHeartbeats 4000000 in
theorem ml_market {a0 a1 a2 a3 a4 a5 : Int32} (cx : mi_CxL p s m c b ra cT D [a0, a1, a2, a3, a4, a5]) (hr : meth.sig.returnType = ret) (hlocks : meth.locks = false) (hk : (a0 &&& 63) = 7) : mi_LW p l e s m below meth c b ra cT D (33, [(3, .int 0), (2, .ref 116), (1, .ref 0), (0, .ref mi_RO)], [.int (a0 &&& 63)], (149, 5163), mi_G) := by
  obtain ⟨r, h1, h2, dx, dr, h9, hdx, hdr, Mx, Mr⟩ := mi_P_int (mp_market a1 a2 a3) rfl (qx := (mi_h88, mi_c88)) (qr := (mi_h175, mi_c175)) rfl rfl
  refine mi_l_eq (x1 := (33, [(3, .int 0), (2, .ref 116), (1, .ref 0), (0, .ref mi_RO)], [.int 7], (149, 5163), mi_G)) (by rw [hk]) ?_
  refine mi_l_steps cx 17 _ (437, [(3, .int 0), (2, .ref 116), (1, .ref 0), (0, .ref mi_RO)], [.int a3, .int a2, .int a1, .ref 0], (149, 5163), mi_G) (by rfl) ?_
  refine mi_l_call cx (i := (.invokevirtual 45, 3, 88, 0, 9, 0, 207)) (by rfl) (by rfl) Mx hdx ⟨rfl, rfl⟩ ?_
  refine mi_l_steps cx 16 _ (456, [(3, .int 0), (2, .ref 116), (1, .ref 0), (0, .ref mi_RO)], [.int a3, .int a2, .int a1, .ref 116, .int r], (149, 5163), h1) (by rfl) ?_
  refine mi_l_call cx (i := (.invokevirtual 48, 3, 175, 0, 9, 0, 409)) (by rfl) ((mi_l_inv h9 rfl rfl).trans (by rfl)) Mr hdr ⟨rfl, rfl⟩ ?_
  refine mi_l_b cx (r == r) true (beq_self_eq_true r) 1495 462 ([(3, .int 0), (2, .ref 116), (1, .ref 0), (0, .ref mi_RO)], [], (149, 5163), h2) (by rfl) ?_
  exact mk_tail cx (Nat.le_refl 6) hr hlocks
set_option maxRecDepth 100000 in
set_option maxHeartbeats 4000000 in
theorem ml_coming {a0 a1 a2 a3 a4 a5 : Int32} (cx : mi_CxL p s m c b ra cT D [a0, a1, a2, a3, a4, a5]) (hr : meth.sig.returnType = ret) (hlocks : meth.locks = false) (hk : (a0 &&& 63) = 8) : mi_LW p l e s m below meth c b ra cT D (33, [(3, .int 0), (2, .ref 116), (1, .ref 0), (0, .ref mi_RO)], [.int (a0 &&& 63)], (149, 5163), mi_G) := by
  obtain ⟨r, h1, h2, dx, dr, h9, hdx, hdr, Mx, Mr⟩ := mi_P_int (mp_coming a1 a2 a3) rfl (qx := (mi_h89, mi_c89)) (qr := (mi_h176, mi_c176)) rfl rfl
  refine mi_l_eq (x1 := (33, [(3, .int 0), (2, .ref 116), (1, .ref 0), (0, .ref mi_RO)], [.int 8], (149, 5163), mi_G)) (by rw [hk]) ?_
  refine mi_l_steps cx 17 _ (480, [(3, .int 0), (2, .ref 116), (1, .ref 0), (0, .ref mi_RO)], [.int a3, .int a2, .int a1, .ref 0], (149, 5163), mi_G) (by rfl) ?_
  refine mi_l_call cx (i := (.invokevirtual 49, 3, 89, 0, 9, 0, 229)) (by rfl) (by rfl) Mx hdx ⟨rfl, rfl⟩ ?_
  refine mi_l_steps cx 16 _ (499, [(3, .int 0), (2, .ref 116), (1, .ref 0), (0, .ref mi_RO)], [.int a3, .int a2, .int a1, .ref 116, .int r], (149, 5163), h1) (by rfl) ?_
  refine mi_l_call cx (i := (.invokevirtual 52, 3, 176, 0, 9, 0, 424)) (by rfl) ((mi_l_inv h9 rfl rfl).trans (by rfl)) Mr hdr ⟨rfl, rfl⟩ ?_
  refine mi_l_b cx (r == r) true (beq_self_eq_true r) 1495 505 ([(3, .int 0), (2, .ref 116), (1, .ref 0), (0, .ref mi_RO)], [], (149, 5163), h2) (by rfl) ?_
  exact mk_tail cx (Nat.le_refl 6) hr hlocks
set_option maxRecDepth 100000 in
set_option maxHeartbeats 4000000 in
theorem ml_later {a0 a1 a2 a3 a4 a5 : Int32} (cx : mi_CxL p s m c b ra cT D [a0, a1, a2, a3, a4, a5]) (hr : meth.sig.returnType = ret) (hlocks : meth.locks = false) (hk : (a0 &&& 63) = 9) : mi_LW p l e s m below meth c b ra cT D (33, [(3, .int 0), (2, .ref 116), (1, .ref 0), (0, .ref mi_RO)], [.int (a0 &&& 63)], (149, 5163), mi_G) := by
  obtain ⟨r, h1, h2, dx, dr, h9, hdx, hdr, Mx, Mr⟩ := mi_P_int (mp_later a1 a2 a3) rfl (qx := (mi_h90, mi_c90)) (qr := (mi_h177, mi_c177)) rfl rfl
  refine mi_l_eq (x1 := (33, [(3, .int 0), (2, .ref 116), (1, .ref 0), (0, .ref mi_RO)], [.int 9], (149, 5163), mi_G)) (by rw [hk]) ?_
  refine mi_l_steps cx 17 _ (523, [(3, .int 0), (2, .ref 116), (1, .ref 0), (0, .ref mi_RO)], [.int a3, .int a2, .int a1, .ref 0], (149, 5163), mi_G) (by rfl) ?_
  refine mi_l_call cx (i := (.invokevirtual 53, 3, 90, 0, 9, 0, 230)) (by rfl) (by rfl) Mx hdx ⟨rfl, rfl⟩ ?_
  refine mi_l_steps cx 16 _ (542, [(3, .int 0), (2, .ref 116), (1, .ref 0), (0, .ref mi_RO)], [.int a3, .int a2, .int a1, .ref 116, .int r], (149, 5163), h1) (by rfl) ?_
  refine mi_l_call cx (i := (.invokevirtual 56, 3, 177, 0, 9, 0, 425)) (by rfl) ((mi_l_inv h9 rfl rfl).trans (by rfl)) Mr hdr ⟨rfl, rfl⟩ ?_
  refine mi_l_b cx (r == r) true (beq_self_eq_true r) 1495 548 ([(3, .int 0), (2, .ref 116), (1, .ref 0), (0, .ref mi_RO)], [], (149, 5163), h2) (by rfl) ?_
  exact mk_tail cx (Nat.le_refl 6) hr hlocks
set_option maxRecDepth 100000 in
set_option maxHeartbeats 4000000 in
theorem ml_onceMore {a0 a1 a2 a3 a4 a5 : Int32} (cx : mi_CxL p s m c b ra cT D [a0, a1, a2, a3, a4, a5]) (hr : meth.sig.returnType = ret) (hlocks : meth.locks = false) (hk : (a0 &&& 63) = 10) : mi_LW p l e s m below meth c b ra cT D (33, [(3, .int 0), (2, .ref 116), (1, .ref 0), (0, .ref mi_RO)], [.int (a0 &&& 63)], (149, 5163), mi_G) := by
  obtain ⟨r, h1, h2, dx, dr, h9, hdx, hdr, Mx, Mr⟩ := mi_P_int (mp_onceMore a1 a2 a3) rfl (qx := (mi_h91, mi_c91)) (qr := (mi_h180, mi_c180)) rfl rfl
  refine mi_l_eq (x1 := (33, [(3, .int 0), (2, .ref 116), (1, .ref 0), (0, .ref mi_RO)], [.int 10], (149, 5163), mi_G)) (by rw [hk]) ?_
  refine mi_l_steps cx 17 _ (566, [(3, .int 0), (2, .ref 116), (1, .ref 0), (0, .ref mi_RO)], [.int a3, .int a2, .int a1, .ref 0], (149, 5163), mi_G) (by rfl) ?_
  refine mi_l_call cx (i := (.invokevirtual 57, 3, 91, 0, 9, 0, 235)) (by rfl) (by rfl) Mx hdx ⟨rfl, rfl⟩ ?_
  refine mi_l_steps cx 16 _ (585, [(3, .int 0), (2, .ref 116), (1, .ref 0), (0, .ref mi_RO)], [.int a3, .int a2, .int a1, .ref 116, .int r], (149, 5163), h1) (by rfl) ?_
  refine mi_l_call cx (i := (.invokevirtual 60, 3, 180, 0, 9, 0, 427)) (by rfl) ((mi_l_inv h9 rfl rfl).trans (by rfl)) Mr hdr ⟨rfl, rfl⟩ ?_
  refine mi_l_b cx (r == r) true (beq_self_eq_true r) 1495 591 ([(3, .int 0), (2, .ref 116), (1, .ref 0), (0, .ref mi_RO)], [], (149, 5163), h2) (by rfl) ?_
  exact mk_tail cx (Nat.le_refl 6) hr hlocks
set_option maxRecDepth 100000 in
set_option maxHeartbeats 4000000 in
theorem ml_hired {a0 a1 a2 a3 a4 a5 : Int32} (cx : mi_CxL p s m c b ra cT D [a0, a1, a2, a3, a4, a5]) (hr : meth.sig.returnType = ret) (hlocks : meth.locks = false) (hk : (a0 &&& 63) = 11) : mi_LW p l e s m below meth c b ra cT D (33, [(3, .int 0), (2, .ref 116), (1, .ref 0), (0, .ref mi_RO)], [.int (a0 &&& 63)], (149, 5163), mi_G) := by
  obtain ⟨r, h1, h2, dx, dr, h9, hdx, hdr, Mx, Mr⟩ := mi_P_int (mp_hired a1 a2 a3 a4) rfl (qx := (mi_h92, mi_c92)) (qr := (mi_h181, mi_c181)) rfl rfl
  refine mi_l_eq (x1 := (33, [(3, .int 0), (2, .ref 116), (1, .ref 0), (0, .ref mi_RO)], [.int 11], (149, 5163), mi_G)) (by rw [hk]) ?_
  refine mi_l_steps cx 22 _ (614, [(3, .int 0), (2, .ref 116), (1, .ref 0), (0, .ref mi_RO)], [.int a4, .int a3, .int a2, .int a1, .ref 0], (149, 5163), mi_G) (by rfl) ?_
  refine mi_l_call cx (i := (.invokevirtual 61, 3, 92, 0, 9, 0, 242)) (by rfl) (by rfl) Mx hdx ⟨rfl, rfl⟩ ?_
  refine mi_l_steps cx 21 _ (638, [(3, .int 0), (2, .ref 116), (1, .ref 0), (0, .ref mi_RO)], [.int a4, .int a3, .int a2, .int a1, .ref 116, .int r], (149, 5163), h1) (by rfl) ?_
  refine mi_l_call cx (i := (.invokevirtual 65, 3, 181, 0, 9, 0, 431)) (by rfl) ((mi_l_inv h9 rfl rfl).trans (by rfl)) Mr hdr ⟨rfl, rfl⟩ ?_
  refine mi_l_b cx (r == r) true (beq_self_eq_true r) 1495 644 ([(3, .int 0), (2, .ref 116), (1, .ref 0), (0, .ref mi_RO)], [], (149, 5163), h2) (by rfl) ?_
  exact mk_tail cx (Nat.le_refl 6) hr hlocks
set_option maxRecDepth 100000 in
set_option maxHeartbeats 4000000 in
theorem ml_latch {a0 a1 a2 a3 a4 a5 : Int32} (cx : mi_CxL p s m c b ra cT D [a0, a1, a2, a3, a4, a5]) (hr : meth.sig.returnType = ret) (hlocks : meth.locks = false) (hk : (a0 &&& 63) = 12) : mi_LW p l e s m below meth c b ra cT D (33, [(3, .int 0), (2, .ref 116), (1, .ref 0), (0, .ref mi_RO)], [.int (a0 &&& 63)], (149, 5163), mi_G) := by
  obtain ⟨r, h1, h2, dx, dr, h9, hdx, hdr, Mx, Mr⟩ := mi_P_int (mp_latch a1 a2 a3) rfl (qx := (mi_h93, mi_c93)) (qr := (mi_h183, mi_c183)) rfl rfl
  refine mi_l_eq (x1 := (33, [(3, .int 0), (2, .ref 116), (1, .ref 0), (0, .ref mi_RO)], [.int 12], (149, 5163), mi_G)) (by rw [hk]) ?_
  refine mi_l_steps cx 17 _ (662, [(3, .int 0), (2, .ref 116), (1, .ref 0), (0, .ref mi_RO)], [.int a3, .int a2, .int a1, .ref 0], (149, 5163), mi_G) (by rfl) ?_
  refine mi_l_call cx (i := (.invokevirtual 66, 3, 93, 0, 9, 0, 244)) (by rfl) (by rfl) Mx hdx ⟨rfl, rfl⟩ ?_
  refine mi_l_steps cx 16 _ (681, [(3, .int 0), (2, .ref 116), (1, .ref 0), (0, .ref mi_RO)], [.int a3, .int a2, .int a1, .ref 116, .int r], (149, 5163), h1) (by rfl) ?_
  refine mi_l_call cx (i := (.invokevirtual 69, 3, 183, 0, 9, 0, 432)) (by rfl) ((mi_l_inv h9 rfl rfl).trans (by rfl)) Mr hdr ⟨rfl, rfl⟩ ?_
  refine mi_l_b cx (r == r) true (beq_self_eq_true r) 1495 687 ([(3, .int 0), (2, .ref 116), (1, .ref 0), (0, .ref mi_RO)], [], (149, 5163), h2) (by rfl) ?_
  exact mk_tail cx (Nat.le_refl 6) hr hlocks
set_option maxRecDepth 100000 in
set_option maxHeartbeats 4000000 in
theorem ml_order {a0 a1 a2 a3 a4 a5 : Int32} (cx : mi_CxL p s m c b ra cT D [a0, a1, a2, a3, a4, a5]) (hr : meth.sig.returnType = ret) (hlocks : meth.locks = false) (hk : (a0 &&& 63) = 13) : mi_LW p l e s m below meth c b ra cT D (33, [(3, .int 0), (2, .ref 116), (1, .ref 0), (0, .ref mi_RO)], [.int (a0 &&& 63)], (149, 5163), mi_G) := by
  obtain ⟨r, h1, h2, dx, dr, h9, hdx, hdr, Mx, Mr⟩ := mi_P_int (mp_order a1 a2 a3) rfl (qx := (mi_h94, mi_c94)) (qr := (mi_h185, mi_c185)) rfl rfl
  refine mi_l_eq (x1 := (33, [(3, .int 0), (2, .ref 116), (1, .ref 0), (0, .ref mi_RO)], [.int 13], (149, 5163), mi_G)) (by rw [hk]) ?_
  refine mi_l_steps cx 17 _ (705, [(3, .int 0), (2, .ref 116), (1, .ref 0), (0, .ref mi_RO)], [.int a3, .int a2, .int a1, .ref 0], (149, 5163), mi_G) (by rfl) ?_
  refine mi_l_call cx (i := (.invokevirtual 70, 3, 94, 0, 9, 0, 246)) (by rfl) (by rfl) Mx hdx ⟨rfl, rfl⟩ ?_
  refine mi_l_steps cx 16 _ (724, [(3, .int 0), (2, .ref 116), (1, .ref 0), (0, .ref mi_RO)], [.int a3, .int a2, .int a1, .ref 116, .int r], (149, 5163), h1) (by rfl) ?_
  refine mi_l_call cx (i := (.invokevirtual 73, 3, 185, 0, 9, 0, 434)) (by rfl) ((mi_l_inv h9 rfl rfl).trans (by rfl)) Mr hdr ⟨rfl, rfl⟩ ?_
  refine mi_l_b cx (r == r) true (beq_self_eq_true r) 1495 730 ([(3, .int 0), (2, .ref 116), (1, .ref 0), (0, .ref mi_RO)], [], (149, 5163), h2) (by rfl) ?_
  exact mk_tail cx (Nat.le_refl 6) hr hlocks
set_option maxRecDepth 100000 in
set_option maxHeartbeats 4000000 in
theorem ml_flow {a0 a1 a2 a3 a4 a5 : Int32} (cx : mi_CxL p s m c b ra cT D [a0, a1, a2, a3, a4, a5]) (hr : meth.sig.returnType = ret) (hlocks : meth.locks = false) (hk : (a0 &&& 63) = 14) : mi_LW p l e s m below meth c b ra cT D (33, [(3, .int 0), (2, .ref 116), (1, .ref 0), (0, .ref mi_RO)], [.int (a0 &&& 63)], (149, 5163), mi_G) := by
  obtain ⟨r, h1, h2, dx, dr, h9, hdx, hdr, Mx, Mr⟩ := mi_P_int (mp_flow a1 a2) rfl (qx := (mi_h95, mi_c95)) (qr := (mi_h187, mi_c187)) rfl rfl
  refine mi_l_eq (x1 := (33, [(3, .int 0), (2, .ref 116), (1, .ref 0), (0, .ref mi_RO)], [.int 14], (149, 5163), mi_G)) (by rw [hk]) ?_
  refine mi_l_steps cx 12 _ (743, [(3, .int 0), (2, .ref 116), (1, .ref 0), (0, .ref mi_RO)], [.int a2, .int a1, .ref 0], (149, 5163), mi_G) (by rfl) ?_
  refine mi_l_call cx (i := (.invokevirtual 74, 3, 95, 0, 9, 0, 253)) (by rfl) (by rfl) Mx hdx ⟨rfl, rfl⟩ ?_
  refine mi_l_steps cx 11 _ (757, [(3, .int 0), (2, .ref 116), (1, .ref 0), (0, .ref mi_RO)], [.int a2, .int a1, .ref 116, .int r], (149, 5163), h1) (by rfl) ?_
  refine mi_l_call cx (i := (.invokevirtual 77, 3, 187, 0, 9, 0, 437)) (by rfl) ((mi_l_inv h9 rfl rfl).trans (by rfl)) Mr hdr ⟨rfl, rfl⟩ ?_
  refine mi_l_b cx (r == r) true (beq_self_eq_true r) 1495 763 ([(3, .int 0), (2, .ref 116), (1, .ref 0), (0, .ref mi_RO)], [], (149, 5163), h2) (by rfl) ?_
  exact mk_tail cx (Nat.le_refl 6) hr hlocks
set_option maxRecDepth 100000 in
set_option maxHeartbeats 4000000 in
theorem ml_round {a0 a1 a2 a3 a4 a5 : Int32} (cx : mi_CxL p s m c b ra cT D [a0, a1, a2, a3, a4, a5]) (hr : meth.sig.returnType = ret) (hlocks : meth.locks = false) (hk : (a0 &&& 63) = 15) : mi_LW p l e s m below meth c b ra cT D (33, [(3, .int 0), (2, .ref 116), (1, .ref 0), (0, .ref mi_RO)], [.int (a0 &&& 63)], (149, 5163), mi_G) := by
  obtain ⟨r, h1, h2, dx, dr, h9, hdx, hdr, Mx, Mr⟩ := mi_P_int (mp_round a1 a2) rfl (qx := (mi_h96, mi_c96)) (qr := (mi_h189, mi_c189)) rfl rfl
  refine mi_l_eq (x1 := (33, [(3, .int 0), (2, .ref 116), (1, .ref 0), (0, .ref mi_RO)], [.int 15], (149, 5163), mi_G)) (by rw [hk]) ?_
  refine mi_l_steps cx 12 _ (776, [(3, .int 0), (2, .ref 116), (1, .ref 0), (0, .ref mi_RO)], [.int a2, .int a1, .ref 0], (149, 5163), mi_G) (by rfl) ?_
  refine mi_l_call cx (i := (.invokevirtual 78, 3, 96, 0, 9, 0, 255)) (by rfl) (by rfl) Mx hdx ⟨rfl, rfl⟩ ?_
  refine mi_l_steps cx 11 _ (790, [(3, .int 0), (2, .ref 116), (1, .ref 0), (0, .ref mi_RO)], [.int a2, .int a1, .ref 116, .int r], (149, 5163), h1) (by rfl) ?_
  refine mi_l_call cx (i := (.invokevirtual 81, 3, 189, 0, 9, 0, 439)) (by rfl) ((mi_l_inv h9 rfl rfl).trans (by rfl)) Mr hdr ⟨rfl, rfl⟩ ?_
  refine mi_l_b cx (r == r) true (beq_self_eq_true r) 1495 796 ([(3, .int 0), (2, .ref 116), (1, .ref 0), (0, .ref mi_RO)], [], (149, 5163), h2) (by rfl) ?_
  exact mk_tail cx (Nat.le_refl 6) hr hlocks
set_option maxRecDepth 100000 in
set_option maxHeartbeats 4000000 in
theorem ml_judge {a0 a1 a2 a3 a4 a5 : Int32} (cx : mi_CxL p s m c b ra cT D [a0, a1, a2, a3, a4, a5]) (hr : meth.sig.returnType = ret) (hlocks : meth.locks = false) (hk : (a0 &&& 63) = 16) : mi_LW p l e s m below meth c b ra cT D (33, [(3, .int 0), (2, .ref 116), (1, .ref 0), (0, .ref mi_RO)], [.int (a0 &&& 63)], (149, 5163), mi_G) := by
  obtain ⟨r, h1, h2, dx, dr, h9, hdx, hdr, Mx, Mr⟩ := mi_P_int (mp_judge a1) rfl (qx := (mi_h97, mi_c97)) (qr := (mi_h193, mi_c193)) rfl rfl
  refine mi_l_eq (x1 := (33, [(3, .int 0), (2, .ref 116), (1, .ref 0), (0, .ref mi_RO)], [.int 16], (149, 5163), mi_G)) (by rw [hk]) ?_
  refine mi_l_steps cx 7 _ (804, [(3, .int 0), (2, .ref 116), (1, .ref 0), (0, .ref mi_RO)], [.int a1, .ref 0], (149, 5163), mi_G) (by rfl) ?_
  refine mi_l_call cx (i := (.invokevirtual 82, 3, 97, 0, 9, 0, 259)) (by rfl) (by rfl) Mx hdx ⟨rfl, rfl⟩ ?_
  refine mi_l_steps cx 6 _ (813, [(3, .int 0), (2, .ref 116), (1, .ref 0), (0, .ref mi_RO)], [.int a1, .ref 116, .int r], (149, 5163), h1) (by rfl) ?_
  refine mi_l_call cx (i := (.invokevirtual 85, 3, 193, 0, 9, 0, 441)) (by rfl) ((mi_l_inv h9 rfl rfl).trans (by rfl)) Mr hdr ⟨rfl, rfl⟩ ?_
  refine mi_l_b cx (r == r) true (beq_self_eq_true r) 1495 819 ([(3, .int 0), (2, .ref 116), (1, .ref 0), (0, .ref mi_RO)], [], (149, 5163), h2) (by rfl) ?_
  exact mk_tail cx (Nat.le_refl 6) hr hlocks
set_option maxRecDepth 100000 in
set_option maxHeartbeats 4000000 in
theorem ml_fits {a0 a1 a2 a3 a4 a5 : Int32} (cx : mi_CxL p s m c b ra cT D [a0, a1, a2, a3, a4, a5]) (hr : meth.sig.returnType = ret) (hlocks : meth.locks = false) (hk : (a0 &&& 63) = 17) : mi_LW p l e s m below meth c b ra cT D (33, [(3, .int 0), (2, .ref 116), (1, .ref 0), (0, .ref mi_RO)], [.int (a0 &&& 63)], (149, 5163), mi_G) := by
  obtain ⟨r, h1, h2, dx, dr, h9, hdx, hdr, Mx, Mr⟩ := mi_P_int (mp_fits a1 a2 a3) rfl (qx := (mi_h98, mi_c98)) (qr := (mi_h197, mi_c197)) rfl rfl
  refine mi_l_eq (x1 := (33, [(3, .int 0), (2, .ref 116), (1, .ref 0), (0, .ref mi_RO)], [.int 17], (149, 5163), mi_G)) (by rw [hk]) ?_
  refine mi_l_steps cx 17 _ (837, [(3, .int 0), (2, .ref 116), (1, .ref 0), (0, .ref mi_RO)], [.int a3, .int a2, .int a1, .ref 0], (149, 5163), mi_G) (by rfl) ?_
  refine mi_l_call cx (i := (.invokevirtual 86, 3, 98, 0, 9, 0, 263)) (by rfl) (by rfl) Mx hdx ⟨rfl, rfl⟩ ?_
  refine mi_l_steps cx 16 _ (856, [(3, .int 0), (2, .ref 116), (1, .ref 0), (0, .ref mi_RO)], [.int a3, .int a2, .int a1, .ref 116, .int r], (149, 5163), h1) (by rfl) ?_
  refine mi_l_call cx (i := (.invokevirtual 89, 3, 197, 0, 9, 0, 445)) (by rfl) ((mi_l_inv h9 rfl rfl).trans (by rfl)) Mr hdr ⟨rfl, rfl⟩ ?_
  refine mi_l_b cx (r == r) true (beq_self_eq_true r) 1495 862 ([(3, .int 0), (2, .ref 116), (1, .ref 0), (0, .ref mi_RO)], [], (149, 5163), h2) (by rfl) ?_
  exact mk_tail cx (Nat.le_refl 6) hr hlocks
set_option maxRecDepth 100000 in
set_option maxHeartbeats 4000000 in
theorem ml_byTurns {a0 a1 a2 a3 a4 a5 : Int32} (cx : mi_CxL p s m c b ra cT D [a0, a1, a2, a3, a4, a5]) (hr : meth.sig.returnType = ret) (hlocks : meth.locks = false) (hk : (a0 &&& 63) = 18) : mi_LW p l e s m below meth c b ra cT D (33, [(3, .int 0), (2, .ref 116), (1, .ref 0), (0, .ref mi_RO)], [.int (a0 &&& 63)], (149, 5163), mi_G) := by
  obtain ⟨r, h1, h2, dx, dr, h9, hdx, hdr, Mx, Mr⟩ := mi_P_int (mp_byTurns a1 a2 a3) rfl (qx := (mi_h100, mi_c100)) (qr := (mi_h200, mi_c200)) rfl rfl
  refine mi_l_eq (x1 := (33, [(3, .int 0), (2, .ref 116), (1, .ref 0), (0, .ref mi_RO)], [.int 18], (149, 5163), mi_G)) (by rw [hk]) ?_
  refine mi_l_steps cx 17 _ (880, [(3, .int 0), (2, .ref 116), (1, .ref 0), (0, .ref mi_RO)], [.int a3, .int a2, .int a1, .ref 0], (149, 5163), mi_G) (by rfl) ?_
  refine mi_l_call cx (i := (.invokevirtual 90, 3, 100, 0, 9, 0, 272)) (by rfl) (by rfl) Mx hdx ⟨rfl, rfl⟩ ?_
  refine mi_l_steps cx 16 _ (899, [(3, .int 0), (2, .ref 116), (1, .ref 0), (0, .ref mi_RO)], [.int a3, .int a2, .int a1, .ref 116, .int r], (149, 5163), h1) (by rfl) ?_
  refine mi_l_call cx (i := (.invokevirtual 93, 3, 200, 0, 9, 0, 449)) (by rfl) ((mi_l_inv h9 rfl rfl).trans (by rfl)) Mr hdr ⟨rfl, rfl⟩ ?_
  refine mi_l_b cx (r == r) true (beq_self_eq_true r) 1495 905 ([(3, .int 0), (2, .ref 116), (1, .ref 0), (0, .ref mi_RO)], [], (149, 5163), h2) (by rfl) ?_
  exact mk_tail cx (Nat.le_refl 6) hr hlocks
set_option maxRecDepth 100000 in
set_option maxHeartbeats 4000000 in
theorem ml_drawn {a0 a1 a2 a3 a4 a5 : Int32} (cx : mi_CxL p s m c b ra cT D [a0, a1, a2, a3, a4, a5]) (hr : meth.sig.returnType = ret) (hlocks : meth.locks = false) (hk : (a0 &&& 63) = 19) : mi_LW p l e s m below meth c b ra cT D (33, [(3, .int 0), (2, .ref 116), (1, .ref 0), (0, .ref mi_RO)], [.int (a0 &&& 63)], (149, 5163), mi_G) := by
  obtain ⟨r, h1, h2, dx, dr, h9, hdx, hdr, Mx, Mr⟩ := mi_P_int (mp_drawn a1 a2 a3) rfl (qx := (mi_h101, mi_c101)) (qr := (mi_h201, mi_c201)) rfl rfl
  refine mi_l_eq (x1 := (33, [(3, .int 0), (2, .ref 116), (1, .ref 0), (0, .ref mi_RO)], [.int 19], (149, 5163), mi_G)) (by rw [hk]) ?_
  refine mi_l_steps cx 17 _ (923, [(3, .int 0), (2, .ref 116), (1, .ref 0), (0, .ref mi_RO)], [.int a3, .int a2, .int a1, .ref 0], (149, 5163), mi_G) (by rfl) ?_
  refine mi_l_call cx (i := (.invokevirtual 94, 3, 101, 0, 9, 0, 277)) (by rfl) (by rfl) Mx hdx ⟨rfl, rfl⟩ ?_
  refine mi_l_steps cx 16 _ (942, [(3, .int 0), (2, .ref 116), (1, .ref 0), (0, .ref mi_RO)], [.int a3, .int a2, .int a1, .ref 116, .int r], (149, 5163), h1) (by rfl) ?_
  refine mi_l_call cx (i := (.invokevirtual 97, 3, 201, 0, 9, 0, 453)) (by rfl) ((mi_l_inv h9 rfl rfl).trans (by rfl)) Mr hdr ⟨rfl, rfl⟩ ?_
  refine mi_l_b cx (r == r) true (beq_self_eq_true r) 1495 948 ([(3, .int 0), (2, .ref 116), (1, .ref 0), (0, .ref mi_RO)], [], (149, 5163), h2) (by rfl) ?_
  exact mk_tail cx (Nat.le_refl 6) hr hlocks
set_option maxRecDepth 100000 in
set_option maxHeartbeats 4000000 in
theorem ml_comes {a0 a1 a2 a3 a4 a5 : Int32} (cx : mi_CxL p s m c b ra cT D [a0, a1, a2, a3, a4, a5]) (hr : meth.sig.returnType = ret) (hlocks : meth.locks = false) (hk : (a0 &&& 63) = 20) : mi_LW p l e s m below meth c b ra cT D (33, [(3, .int 0), (2, .ref 116), (1, .ref 0), (0, .ref mi_RO)], [.int (a0 &&& 63)], (149, 5163), mi_G) := by
  obtain ⟨r, h1, h2, dx, dr, h9, hdx, hdr, Mx, Mr⟩ := mi_P_int (mp_comes a1) rfl (qx := (mi_h102, mi_c102)) (qr := (mi_h202, mi_c202)) rfl rfl
  refine mi_l_eq (x1 := (33, [(3, .int 0), (2, .ref 116), (1, .ref 0), (0, .ref mi_RO)], [.int 20], (149, 5163), mi_G)) (by rw [hk]) ?_
  refine mi_l_steps cx 7 _ (956, [(3, .int 0), (2, .ref 116), (1, .ref 0), (0, .ref mi_RO)], [.int a1, .ref 0], (149, 5163), mi_G) (by rfl) ?_
  refine mi_l_call cx (i := (.invokevirtual 98, 3, 102, 0, 9, 0, 280)) (by rfl) (by rfl) Mx hdx ⟨rfl, rfl⟩ ?_
  refine mi_l_steps cx 6 _ (965, [(3, .int 0), (2, .ref 116), (1, .ref 0), (0, .ref mi_RO)], [.int a1, .ref 116, .int r], (149, 5163), h1) (by rfl) ?_
  refine mi_l_call cx (i := (.invokevirtual 101, 3, 202, 0, 9, 0, 455)) (by rfl) ((mi_l_inv h9 rfl rfl).trans (by rfl)) Mr hdr ⟨rfl, rfl⟩ ?_
  refine mi_l_b cx (r == r) true (beq_self_eq_true r) 1495 971 ([(3, .int 0), (2, .ref 116), (1, .ref 0), (0, .ref mi_RO)], [], (149, 5163), h2) (by rfl) ?_
  exact mk_tail cx (Nat.le_refl 6) hr hlocks
set_option maxRecDepth 100000 in
set_option maxHeartbeats 4000000 in
theorem ml_evening {a0 a1 a2 a3 a4 a5 : Int32} (cx : mi_CxL p s m c b ra cT D [a0, a1, a2, a3, a4, a5]) (hr : meth.sig.returnType = ret) (hlocks : meth.locks = false) (hk : (a0 &&& 63) = 21) : mi_LW p l e s m below meth c b ra cT D (33, [(3, .int 0), (2, .ref 116), (1, .ref 0), (0, .ref mi_RO)], [.int (a0 &&& 63)], (149, 5163), mi_G) := by
  obtain ⟨r, h1, h2, dx, dr, h9, hdx, hdr, Mx, Mr⟩ := mi_P_int (mp_evening ) rfl (qx := (mi_h103, mi_c103)) (qr := (mi_h203, mi_c203)) rfl rfl
  refine mi_l_eq (x1 := (33, [(3, .int 0), (2, .ref 116), (1, .ref 0), (0, .ref mi_RO)], [.int 21], (149, 5163), mi_G)) (by rw [hk]) ?_
  refine mi_l_steps cx 2 _ (974, [(3, .int 0), (2, .ref 116), (1, .ref 0), (0, .ref mi_RO)], [.ref 0], (149, 5163), mi_G) (by rfl) ?_
  refine mi_l_call cx (i := (.invokevirtual 102, 3, 103, 0, 9, 0, 282)) (by rfl) (by rfl) Mx hdx ⟨rfl, rfl⟩ ?_
  refine mi_l_steps cx 1 _ (978, [(3, .int 0), (2, .ref 116), (1, .ref 0), (0, .ref mi_RO)], [.ref 116, .int r], (149, 5163), h1) (by rfl) ?_
  refine mi_l_call cx (i := (.invokevirtual 105, 3, 203, 0, 9, 0, 456)) (by rfl) ((mi_l_inv h9 rfl rfl).trans (by rfl)) Mr hdr ⟨rfl, rfl⟩ ?_
  refine mi_l_b cx (r == r) true (beq_self_eq_true r) 1495 984 ([(3, .int 0), (2, .ref 116), (1, .ref 0), (0, .ref mi_RO)], [], (149, 5163), h2) (by rfl) ?_
  exact mk_tail cx (Nat.le_refl 6) hr hlocks
set_option maxRecDepth 100000 in
set_option maxHeartbeats 4000000 in
theorem ml_gives {a0 a1 a2 a3 a4 a5 : Int32} (cx : mi_CxL p s m c b ra cT D [a0, a1, a2, a3, a4, a5]) (hr : meth.sig.returnType = ret) (hlocks : meth.locks = false) (hk : (a0 &&& 63) = 22) : mi_LW p l e s m below meth c b ra cT D (33, [(3, .int 0), (2, .ref 116), (1, .ref 0), (0, .ref mi_RO)], [.int (a0 &&& 63)], (149, 5163), mi_G) := by
  obtain ⟨r, h1, h2, dx, dr, h9, hdx, hdr, Mx, Mr⟩ := mi_P_int (mp_gives a1 a2 a3) rfl (qx := (mi_h104, mi_c104)) (qr := (mi_h204, mi_c204)) rfl rfl
  refine mi_l_eq (x1 := (33, [(3, .int 0), (2, .ref 116), (1, .ref 0), (0, .ref mi_RO)], [.int 22], (149, 5163), mi_G)) (by rw [hk]) ?_
  refine mi_l_steps cx 17 _ (1002, [(3, .int 0), (2, .ref 116), (1, .ref 0), (0, .ref mi_RO)], [.int a3, .int a2, .int a1, .ref 0], (149, 5163), mi_G) (by rfl) ?_
  refine mi_l_call cx (i := (.invokevirtual 106, 3, 104, 0, 9, 0, 284)) (by rfl) (by rfl) Mx hdx ⟨rfl, rfl⟩ ?_
  refine mi_l_steps cx 16 _ (1021, [(3, .int 0), (2, .ref 116), (1, .ref 0), (0, .ref mi_RO)], [.int a3, .int a2, .int a1, .ref 116, .int r], (149, 5163), h1) (by rfl) ?_
  refine mi_l_call cx (i := (.invokevirtual 109, 3, 204, 0, 9, 0, 457)) (by rfl) ((mi_l_inv h9 rfl rfl).trans (by rfl)) Mr hdr ⟨rfl, rfl⟩ ?_
  refine mi_l_b cx (r == r) true (beq_self_eq_true r) 1495 1027 ([(3, .int 0), (2, .ref 116), (1, .ref 0), (0, .ref mi_RO)], [], (149, 5163), h2) (by rfl) ?_
  exact mk_tail cx (Nat.le_refl 6) hr hlocks
set_option maxRecDepth 100000 in
set_option maxHeartbeats 4000000 in
theorem ml_led {a0 a1 a2 a3 a4 a5 : Int32} (cx : mi_CxL p s m c b ra cT D [a0, a1, a2, a3, a4, a5]) (hr : meth.sig.returnType = ret) (hlocks : meth.locks = false) (hk : (a0 &&& 63) = 23) : mi_LW p l e s m below meth c b ra cT D (33, [(3, .int 0), (2, .ref 116), (1, .ref 0), (0, .ref mi_RO)], [.int (a0 &&& 63)], (149, 5163), mi_G) := by
  obtain ⟨r, h1, h2, dx, dr, h9, hdx, hdr, Mx, Mr⟩ := mi_P_int (mp_led a1) rfl (qx := (mi_h105, mi_c105)) (qr := (mi_h205, mi_c205)) rfl rfl
  refine mi_l_eq (x1 := (33, [(3, .int 0), (2, .ref 116), (1, .ref 0), (0, .ref mi_RO)], [.int 23], (149, 5163), mi_G)) (by rw [hk]) ?_
  refine mi_l_steps cx 7 _ (1035, [(3, .int 0), (2, .ref 116), (1, .ref 0), (0, .ref mi_RO)], [.int a1, .ref 0], (149, 5163), mi_G) (by rfl) ?_
  refine mi_l_call cx (i := (.invokevirtual 110, 3, 105, 0, 9, 0, 286)) (by rfl) (by rfl) Mx hdx ⟨rfl, rfl⟩ ?_
  refine mi_l_steps cx 6 _ (1044, [(3, .int 0), (2, .ref 116), (1, .ref 0), (0, .ref mi_RO)], [.int a1, .ref 116, .int r], (149, 5163), h1) (by rfl) ?_
  refine mi_l_call cx (i := (.invokevirtual 113, 3, 205, 0, 9, 0, 458)) (by rfl) ((mi_l_inv h9 rfl rfl).trans (by rfl)) Mr hdr ⟨rfl, rfl⟩ ?_
  refine mi_l_b cx (r == r) true (beq_self_eq_true r) 1495 1050 ([(3, .int 0), (2, .ref 116), (1, .ref 0), (0, .ref mi_RO)], [], (149, 5163), h2) (by rfl) ?_
  exact mk_tail cx (Nat.le_refl 6) hr hlocks
set_option maxRecDepth 100000 in
set_option maxHeartbeats 4000000 in
theorem ml_image {a0 a1 a2 a3 a4 a5 : Int32} (cx : mi_CxL p s m c b ra cT D [a0, a1, a2, a3, a4, a5]) (hr : meth.sig.returnType = ret) (hlocks : meth.locks = false) (hk : (a0 &&& 63) = 24) : mi_LW p l e s m below meth c b ra cT D (33, [(3, .int 0), (2, .ref 116), (1, .ref 0), (0, .ref mi_RO)], [.int (a0 &&& 63)], (149, 5163), mi_G) := by
  obtain ⟨r, h1, h2, dx, dr, h9, hdx, hdr, Mx, Mr⟩ := mi_P_int (mp_image ) rfl (qx := (mi_h106, mi_c106)) (qr := (mi_h206, mi_c206)) rfl rfl
  refine mi_l_eq (x1 := (33, [(3, .int 0), (2, .ref 116), (1, .ref 0), (0, .ref mi_RO)], [.int 24], (149, 5163), mi_G)) (by rw [hk]) ?_
  refine mi_l_steps cx 2 _ (1053, [(3, .int 0), (2, .ref 116), (1, .ref 0), (0, .ref mi_RO)], [.ref 0], (149, 5163), mi_G) (by rfl) ?_
  refine mi_l_call cx (i := (.invokevirtual 114, 3, 106, 0, 9, 0, 287)) (by rfl) (by rfl) Mx hdx ⟨rfl, rfl⟩ ?_
  refine mi_l_steps cx 1 _ (1057, [(3, .int 0), (2, .ref 116), (1, .ref 0), (0, .ref mi_RO)], [.ref 116, .int r], (149, 5163), h1) (by rfl) ?_
  refine mi_l_call cx (i := (.invokevirtual 117, 3, 206, 0, 9, 0, 459)) (by rfl) ((mi_l_inv h9 rfl rfl).trans (by rfl)) Mr hdr ⟨rfl, rfl⟩ ?_
  refine mi_l_b cx (r == r) true (beq_self_eq_true r) 1495 1063 ([(3, .int 0), (2, .ref 116), (1, .ref 0), (0, .ref mi_RO)], [], (149, 5163), h2) (by rfl) ?_
  exact mk_tail cx (Nat.le_refl 6) hr hlocks
set_option maxRecDepth 100000 in
set_option maxHeartbeats 4000000 in
theorem ml_back {a0 a1 a2 a3 a4 a5 : Int32} (cx : mi_CxL p s m c b ra cT D [a0, a1, a2, a3, a4, a5]) (hr : meth.sig.returnType = ret) (hlocks : meth.locks = false) (hk : (a0 &&& 63) = 25) : mi_LW p l e s m below meth c b ra cT D (33, [(3, .int 0), (2, .ref 116), (1, .ref 0), (0, .ref mi_RO)], [.int (a0 &&& 63)], (149, 5163), mi_G) := by
  obtain ⟨r, h1, h2, dx, dr, h9, hdx, hdr, Mx, Mr⟩ := mi_P_int (mp_back ) rfl (qx := (mi_h107, mi_c107)) (qr := (mi_h207, mi_c207)) rfl rfl
  refine mi_l_eq (x1 := (33, [(3, .int 0), (2, .ref 116), (1, .ref 0), (0, .ref mi_RO)], [.int 25], (149, 5163), mi_G)) (by rw [hk]) ?_
  refine mi_l_steps cx 2 _ (1066, [(3, .int 0), (2, .ref 116), (1, .ref 0), (0, .ref mi_RO)], [.ref 0], (149, 5163), mi_G) (by rfl) ?_
  refine mi_l_call cx (i := (.invokevirtual 118, 3, 107, 0, 9, 0, 289)) (by rfl) (by rfl) Mx hdx ⟨rfl, rfl⟩ ?_
  refine mi_l_steps cx 1 _ (1070, [(3, .int 0), (2, .ref 116), (1, .ref 0), (0, .ref mi_RO)], [.ref 116, .int r], (149, 5163), h1) (by rfl) ?_
  refine mi_l_call cx (i := (.invokevirtual 121, 3, 207, 0, 9, 0, 460)) (by rfl) ((mi_l_inv h9 rfl rfl).trans (by rfl)) Mr hdr ⟨rfl, rfl⟩ ?_
  refine mi_l_b cx (r == r) true (beq_self_eq_true r) 1495 1076 ([(3, .int 0), (2, .ref 116), (1, .ref 0), (0, .ref mi_RO)], [], (149, 5163), h2) (by rfl) ?_
  exact mk_tail cx (Nat.le_refl 6) hr hlocks
set_option maxRecDepth 100000 in
set_option maxHeartbeats 4000000 in
theorem ml_undo {a0 a1 a2 a3 a4 a5 : Int32} (cx : mi_CxL p s m c b ra cT D [a0, a1, a2, a3, a4, a5]) (hr : meth.sig.returnType = ret) (hlocks : meth.locks = false) (hk : (a0 &&& 63) = 26) : mi_LW p l e s m below meth c b ra cT D (33, [(3, .int 0), (2, .ref 116), (1, .ref 0), (0, .ref mi_RO)], [.int (a0 &&& 63)], (149, 5163), mi_G) := by
  obtain ⟨r, h1, h2, dx, dr, h9, hdx, hdr, Mx, Mr⟩ := mi_P_int (mp_undo ) rfl (qx := (mi_h108, mi_c108)) (qr := (mi_h144, mi_c144)) rfl rfl
  refine mi_l_eq (x1 := (33, [(3, .int 0), (2, .ref 116), (1, .ref 0), (0, .ref mi_RO)], [.int 26], (149, 5163), mi_G)) (by rw [hk]) ?_
  refine mi_l_steps cx 2 _ (1079, [(3, .int 0), (2, .ref 116), (1, .ref 0), (0, .ref mi_RO)], [.ref 0], (149, 5163), mi_G) (by rfl) ?_
  refine mi_l_call cx (i := (.invokevirtual 122, 3, 108, 0, 9, 0, 290)) (by rfl) (by rfl) Mx hdx ⟨rfl, rfl⟩ ?_
  refine mi_l_steps cx 1 _ (1083, [(3, .int 0), (2, .ref 116), (1, .ref 0), (0, .ref mi_RO)], [.ref 116, .int r], (149, 5163), h1) (by rfl) ?_
  refine mi_l_call cx (i := (.invokevirtual 125, 3, 144, 0, 9, 0, 392)) (by rfl) ((mi_l_inv h9 rfl rfl).trans (by rfl)) Mr hdr ⟨rfl, rfl⟩ ?_
  refine mi_l_b cx (r == r) true (beq_self_eq_true r) 1495 1089 ([(3, .int 0), (2, .ref 116), (1, .ref 0), (0, .ref mi_RO)], [], (149, 5163), h2) (by rfl) ?_
  exact mk_tail cx (Nat.le_refl 6) hr hlocks
set_option maxRecDepth 100000 in
set_option maxHeartbeats 4000000 in
theorem ml_redo {a0 a1 a2 a3 a4 a5 : Int32} (cx : mi_CxL p s m c b ra cT D [a0, a1, a2, a3, a4, a5]) (hr : meth.sig.returnType = ret) (hlocks : meth.locks = false) (hk : (a0 &&& 63) = 27) : mi_LW p l e s m below meth c b ra cT D (33, [(3, .int 0), (2, .ref 116), (1, .ref 0), (0, .ref mi_RO)], [.int (a0 &&& 63)], (149, 5163), mi_G) := by
  obtain ⟨r, h1, h2, dx, dr, h9, hdx, hdr, Mx, Mr⟩ := mi_P_int (mp_redo ) rfl (qx := (mi_h109, mi_c109)) (qr := (mi_h145, mi_c145)) rfl rfl
  refine mi_l_eq (x1 := (33, [(3, .int 0), (2, .ref 116), (1, .ref 0), (0, .ref mi_RO)], [.int 27], (149, 5163), mi_G)) (by rw [hk]) ?_
  refine mi_l_steps cx 2 _ (1092, [(3, .int 0), (2, .ref 116), (1, .ref 0), (0, .ref mi_RO)], [.ref 0], (149, 5163), mi_G) (by rfl) ?_
  refine mi_l_call cx (i := (.invokevirtual 126, 3, 109, 0, 9, 0, 291)) (by rfl) (by rfl) Mx hdx ⟨rfl, rfl⟩ ?_
  refine mi_l_steps cx 1 _ (1096, [(3, .int 0), (2, .ref 116), (1, .ref 0), (0, .ref mi_RO)], [.ref 116, .int r], (149, 5163), h1) (by rfl) ?_
  refine mi_l_call cx (i := (.invokevirtual 129, 3, 145, 0, 9, 0, 393)) (by rfl) ((mi_l_inv h9 rfl rfl).trans (by rfl)) Mr hdr ⟨rfl, rfl⟩ ?_
  refine mi_l_b cx (r == r) true (beq_self_eq_true r) 1495 1102 ([(3, .int 0), (2, .ref 116), (1, .ref 0), (0, .ref mi_RO)], [], (149, 5163), h2) (by rfl) ?_
  exact mk_tail cx (Nat.le_refl 6) hr hlocks
set_option maxRecDepth 100000 in
set_option maxHeartbeats 4000000 in
theorem ml_body {a0 a1 a2 a3 a4 a5 : Int32} (cx : mi_CxL p s m c b ra cT D [a0, a1, a2, a3, a4, a5]) (hr : meth.sig.returnType = ret) (hlocks : meth.locks = false) (hk : (a0 &&& 63) = 28) : mi_LW p l e s m below meth c b ra cT D (33, [(3, .int 0), (2, .ref 116), (1, .ref 0), (0, .ref mi_RO)], [.int (a0 &&& 63)], (149, 5163), mi_G) := by
  obtain ⟨r, h1, h2, dx, dr, h9, hdx, hdr, Mx, Mr⟩ := mi_P_int (mp_body a1) rfl (qx := (mi_h110, mi_c110)) (qr := (mi_h214, mi_c214)) rfl rfl
  refine mi_l_eq (x1 := (33, [(3, .int 0), (2, .ref 116), (1, .ref 0), (0, .ref mi_RO)], [.int 28], (149, 5163), mi_G)) (by rw [hk]) ?_
  refine mi_l_steps cx 7 _ (1110, [(3, .int 0), (2, .ref 116), (1, .ref 0), (0, .ref mi_RO)], [.int a1, .ref 0], (149, 5163), mi_G) (by rfl) ?_
  refine mi_l_call cx (i := (.invokevirtual 130, 3, 110, 0, 9, 0, 292)) (by rfl) (by rfl) Mx hdx ⟨rfl, rfl⟩ ?_
  refine mi_l_steps cx 6 _ (1119, [(3, .int 0), (2, .ref 116), (1, .ref 0), (0, .ref mi_RO)], [.int a1, .ref 116, .int r], (149, 5163), h1) (by rfl) ?_
  refine mi_l_call cx (i := (.invokevirtual 133, 3, 214, 0, 9, 0, 461)) (by rfl) ((mi_l_inv h9 rfl rfl).trans (by rfl)) Mr hdr ⟨rfl, rfl⟩ ?_
  refine mi_l_b cx (r == r) true (beq_self_eq_true r) 1495 1125 ([(3, .int 0), (2, .ref 116), (1, .ref 0), (0, .ref mi_RO)], [], (149, 5163), h2) (by rfl) ?_
  exact mk_tail cx (Nat.le_refl 6) hr hlocks
set_option maxRecDepth 100000 in
set_option maxHeartbeats 4000000 in
theorem ml_act {a0 a1 a2 a3 a4 a5 : Int32} (cx : mi_CxL p s m c b ra cT D [a0, a1, a2, a3, a4, a5]) (hr : meth.sig.returnType = ret) (hlocks : meth.locks = false) (hk : (a0 &&& 63) = 29) : mi_LW p l e s m below meth c b ra cT D (33, [(3, .int 0), (2, .ref 116), (1, .ref 0), (0, .ref mi_RO)], [.int (a0 &&& 63)], (149, 5163), mi_G) := by
  obtain ⟨r, h1, h2, dx, dr, h9, hdx, hdr, Mx, Mr⟩ := mi_P_int (mp_act a1 a2 a3) rfl (qx := (mi_h111, mi_c111)) (qr := (mi_h215, mi_c215)) rfl rfl
  refine mi_l_eq (x1 := (33, [(3, .int 0), (2, .ref 116), (1, .ref 0), (0, .ref mi_RO)], [.int 29], (149, 5163), mi_G)) (by rw [hk]) ?_
  refine mi_l_steps cx 17 _ (1143, [(3, .int 0), (2, .ref 116), (1, .ref 0), (0, .ref mi_RO)], [.int a3, .int a2, .int a1, .ref 0], (149, 5163), mi_G) (by rfl) ?_
  refine mi_l_call cx (i := (.invokevirtual 134, 3, 111, 0, 9, 0, 294)) (by rfl) (by rfl) Mx hdx ⟨rfl, rfl⟩ ?_
  refine mi_l_steps cx 16 _ (1162, [(3, .int 0), (2, .ref 116), (1, .ref 0), (0, .ref mi_RO)], [.int a3, .int a2, .int a1, .ref 116, .int r], (149, 5163), h1) (by rfl) ?_
  refine mi_l_call cx (i := (.invokevirtual 137, 3, 215, 0, 9, 0, 462)) (by rfl) ((mi_l_inv h9 rfl rfl).trans (by rfl)) Mr hdr ⟨rfl, rfl⟩ ?_
  refine mi_l_b cx (r == r) true (beq_self_eq_true r) 1495 1168 ([(3, .int 0), (2, .ref 116), (1, .ref 0), (0, .ref mi_RO)], [], (149, 5163), h2) (by rfl) ?_
  exact mk_tail cx (Nat.le_refl 6) hr hlocks
set_option maxRecDepth 100000 in
set_option maxHeartbeats 4000000 in
theorem ml_trace {a0 a1 a2 a3 a4 a5 : Int32} (cx : mi_CxL p s m c b ra cT D [a0, a1, a2, a3, a4, a5]) (hr : meth.sig.returnType = ret) (hlocks : meth.locks = false) (hk : (a0 &&& 63) = 30) : mi_LW p l e s m below meth c b ra cT D (33, [(3, .int 0), (2, .ref 116), (1, .ref 0), (0, .ref mi_RO)], [.int (a0 &&& 63)], (149, 5163), mi_G) := by
  obtain ⟨r, h1, h2, dx, dr, h9, hdx, hdr, Mx, Mr⟩ := mi_P_int (mp_trace a1) rfl (qx := (mi_h112, mi_c112)) (qr := (mi_h216, mi_c216)) rfl rfl
  refine mi_l_eq (x1 := (33, [(3, .int 0), (2, .ref 116), (1, .ref 0), (0, .ref mi_RO)], [.int 30], (149, 5163), mi_G)) (by rw [hk]) ?_
  refine mi_l_steps cx 7 _ (1176, [(3, .int 0), (2, .ref 116), (1, .ref 0), (0, .ref mi_RO)], [.int a1, .ref 0], (149, 5163), mi_G) (by rfl) ?_
  refine mi_l_call cx (i := (.invokevirtual 138, 3, 112, 0, 9, 0, 302)) (by rfl) (by rfl) Mx hdx ⟨rfl, rfl⟩ ?_
  refine mi_l_steps cx 6 _ (1185, [(3, .int 0), (2, .ref 116), (1, .ref 0), (0, .ref mi_RO)], [.int a1, .ref 116, .int r], (149, 5163), h1) (by rfl) ?_
  refine mi_l_call cx (i := (.invokevirtual 141, 3, 216, 0, 9, 0, 469)) (by rfl) ((mi_l_inv h9 rfl rfl).trans (by rfl)) Mr hdr ⟨rfl, rfl⟩ ?_
  refine mi_l_b cx (r == r) true (beq_self_eq_true r) 1495 1191 ([(3, .int 0), (2, .ref 116), (1, .ref 0), (0, .ref mi_RO)], [], (149, 5163), h2) (by rfl) ?_
  exact mk_tail cx (Nat.le_refl 6) hr hlocks
set_option maxRecDepth 100000 in
set_option maxHeartbeats 4000000 in
theorem ml_keep {a0 a1 a2 a3 a4 a5 : Int32} (cx : mi_CxL p s m c b ra cT D [a0, a1, a2, a3, a4, a5]) (hr : meth.sig.returnType = ret) (hlocks : meth.locks = false) (hk : (a0 &&& 63) = 31) : mi_LW p l e s m below meth c b ra cT D (33, [(3, .int 0), (2, .ref 116), (1, .ref 0), (0, .ref mi_RO)], [.int (a0 &&& 63)], (149, 5163), mi_G) := by
  obtain ⟨r, h1, h2, dx, dr, h9, hdx, hdr, Mx, Mr⟩ := mi_P_int (mp_keep a1 a2) rfl (qx := (mi_h113, mi_c113)) (qr := (mi_h217, mi_c217)) rfl rfl
  refine mi_l_eq (x1 := (33, [(3, .int 0), (2, .ref 116), (1, .ref 0), (0, .ref mi_RO)], [.int 31], (149, 5163), mi_G)) (by rw [hk]) ?_
  refine mi_l_steps cx 12 _ (1204, [(3, .int 0), (2, .ref 116), (1, .ref 0), (0, .ref mi_RO)], [.int a2, .int a1, .ref 0], (149, 5163), mi_G) (by rfl) ?_
  refine mi_l_call cx (i := (.invokevirtual 142, 3, 113, 0, 9, 0, 303)) (by rfl) (by rfl) Mx hdx ⟨rfl, rfl⟩ ?_
  refine mi_l_steps cx 11 _ (1218, [(3, .int 0), (2, .ref 116), (1, .ref 0), (0, .ref mi_RO)], [.int a2, .int a1, .ref 116, .int r], (149, 5163), h1) (by rfl) ?_
  refine mi_l_call cx (i := (.invokevirtual 145, 3, 217, 0, 9, 0, 470)) (by rfl) ((mi_l_inv h9 rfl rfl).trans (by rfl)) Mr hdr ⟨rfl, rfl⟩ ?_
  refine mi_l_b cx (r == r) true (beq_self_eq_true r) 1495 1224 ([(3, .int 0), (2, .ref 116), (1, .ref 0), (0, .ref mi_RO)], [], (149, 5163), h2) (by rfl) ?_
  exact mk_tail cx (Nat.le_refl 6) hr hlocks
set_option maxRecDepth 100000 in
set_option maxHeartbeats 4000000 in
theorem ml_row {a0 a1 a2 a3 a4 a5 : Int32} (cx : mi_CxL p s m c b ra cT D [a0, a1, a2, a3, a4, a5]) (hr : meth.sig.returnType = ret) (hlocks : meth.locks = false) (hk : (a0 &&& 63) = 32) : mi_LW p l e s m below meth c b ra cT D (33, [(3, .int 0), (2, .ref 116), (1, .ref 0), (0, .ref mi_RO)], [.int (a0 &&& 63)], (149, 5163), mi_G) := by
  obtain ⟨r, h1, h2, dx, dr, h9, hdx, hdr, Mx, Mr⟩ := mi_P_int (mp_row a1 a2 a3) rfl (qx := (mi_h114, mi_c114)) (qr := (mi_h218, mi_c218)) rfl rfl
  refine mi_l_eq (x1 := (33, [(3, .int 0), (2, .ref 116), (1, .ref 0), (0, .ref mi_RO)], [.int 32], (149, 5163), mi_G)) (by rw [hk]) ?_
  refine mi_l_steps cx 17 _ (1242, [(3, .int 0), (2, .ref 116), (1, .ref 0), (0, .ref mi_RO)], [.int a3, .int a2, .int a1, .ref 0], (149, 5163), mi_G) (by rfl) ?_
  refine mi_l_call cx (i := (.invokevirtual 146, 3, 114, 0, 9, 0, 306)) (by rfl) (by rfl) Mx hdx ⟨rfl, rfl⟩ ?_
  refine mi_l_steps cx 16 _ (1261, [(3, .int 0), (2, .ref 116), (1, .ref 0), (0, .ref mi_RO)], [.int a3, .int a2, .int a1, .ref 116, .int r], (149, 5163), h1) (by rfl) ?_
  refine mi_l_call cx (i := (.invokevirtual 149, 3, 218, 0, 9, 0, 471)) (by rfl) ((mi_l_inv h9 rfl rfl).trans (by rfl)) Mr hdr ⟨rfl, rfl⟩ ?_
  refine mi_l_b cx (r == r) true (beq_self_eq_true r) 1495 1267 ([(3, .int 0), (2, .ref 116), (1, .ref 0), (0, .ref mi_RO)], [], (149, 5163), h2) (by rfl) ?_
  exact mk_tail cx (Nat.le_refl 6) hr hlocks
set_option maxRecDepth 100000 in
set_option maxHeartbeats 4000000 in
theorem ml_put {a0 a1 a2 a3 a4 a5 : Int32} (cx : mi_CxL p s m c b ra cT D [a0, a1, a2, a3, a4, a5]) (hr : meth.sig.returnType = ret) (hlocks : meth.locks = false) (hk : (a0 &&& 63) = 33) : mi_LW p l e s m below meth c b ra cT D (33, [(3, .int 0), (2, .ref 116), (1, .ref 0), (0, .ref mi_RO)], [.int (a0 &&& 63)], (149, 5163), mi_G) := by
  obtain ⟨r, h1, h2, dx, dr, h9, hdx, hdr, Mx, Mr⟩ := mi_P_int (mp_put a1 a2 ((a3.toInt64 <<< ((32 : Int32).toInt64 &&& 63)) ||| (a4.toInt64 &&& 4294967295))) rfl (qx := (mi_h115, mi_c115)) (qr := (mi_h221, mi_c221)) rfl rfl
  refine mi_l_eq (x1 := (33, [(3, .int 0), (2, .ref 116), (1, .ref 0), (0, .ref mi_RO)], [.int 33], (149, 5163), mi_G)) (by rw [hk]) ?_
  refine mi_l_steps cx 29 _ (1300, [(3, .int 0), (2, .ref 116), (1, .ref 0), (0, .ref mi_RO)], [.long ((a3.toInt64 <<< ((32 : Int32).toInt64 &&& 63)) ||| (a4.toInt64 &&& 4294967295)), .int a2, .int a1, .ref 0], (149, 5163), mi_G) (by rfl) ?_
  refine mi_l_call cx (i := (.invokevirtual 152, 3, 115, 0, 9, 0, 310)) (by rfl) (by rfl) Mx hdx ⟨rfl, rfl⟩ ?_
  refine mi_l_steps cx 28 _ (1334, [(3, .int 0), (2, .ref 116), (1, .ref 0), (0, .ref mi_RO)], [.long ((a3.toInt64 <<< ((32 : Int32).toInt64 &&& 63)) ||| (a4.toInt64 &&& 4294967295)), .int a2, .int a1, .ref 116, .int r], (149, 5163), h1) (by rfl) ?_
  refine mi_l_call cx (i := (.invokevirtual 156, 3, 221, 0, 9, 0, 472)) (by rfl) ((mi_l_inv h9 rfl rfl).trans (by rfl)) Mr hdr ⟨rfl, rfl⟩ ?_
  refine mi_l_b cx (r == r) true (beq_self_eq_true r) 1495 1340 ([(3, .int 0), (2, .ref 116), (1, .ref 0), (0, .ref mi_RO)], [], (149, 5163), h2) (by rfl) ?_
  exact mk_tail cx (Nat.le_refl 6) hr hlocks
set_option maxRecDepth 100000 in
set_option maxHeartbeats 4000000 in
theorem ml_element {a0 a1 a2 a3 a4 a5 : Int32} (cx : mi_CxL p s m c b ra cT D [a0, a1, a2, a3, a4, a5]) (hr : meth.sig.returnType = ret) (hlocks : meth.locks = false) (hk : (a0 &&& 63) = 34) : mi_LW p l e s m below meth c b ra cT D (33, [(3, .int 0), (2, .ref 116), (1, .ref 0), (0, .ref mi_RO)], [.int (a0 &&& 63)], (149, 5163), mi_G) := by
  obtain ⟨r, h1, h2, dx, dr, h9, hdx, hdr, Mx, Mr⟩ := mi_P_long (mp_element a1 a2) rfl (qx := (mi_h116, mi_c116)) (qr := (mi_h222, mi_c222)) rfl rfl
  refine mi_l_eq (x1 := (33, [(3, .int 0), (2, .ref 116), (1, .ref 0), (0, .ref mi_RO)], [.int 34], (149, 5163), mi_G)) (by rw [hk]) ?_
  refine mi_l_steps cx 12 _ (1353, [(3, .int 0), (2, .ref 116), (1, .ref 0), (0, .ref mi_RO)], [.int a2, .int a1, .ref 0], (149, 5163), mi_G) (by rfl) ?_
  refine mi_l_call cx (i := (.invokevirtual 157, 3, 116, 0, 9, 0, 313)) (by rfl) (by rfl) Mx hdx ⟨rfl, rfl⟩ ?_
  refine mi_l_steps cx 11 _ (1367, [(3, .int 0), (2, .ref 116), (1, .ref 0), (0, .ref mi_RO)], [.int a2, .int a1, .ref 116, .long r], (149, 5163), h1) (by rfl) ?_
  refine mi_l_call cx (i := (.invokevirtual 161, 3, 222, 0, 9, 0, 475)) (by rfl) ((mi_l_inv h9 rfl rfl).trans (by rfl)) Mr hdr ⟨rfl, rfl⟩ ?_
  refine mi_l_steps cx 1 _ (1371, [(3, .int 0), (2, .ref 116), (1, .ref 0), (0, .ref mi_RO)], [.int (lg_cmp r r)], (149, 5163), h2) (by rfl) ?_
  refine mi_l_eq (x1 := (1371, [(3, .int 0), (2, .ref 116), (1, .ref 0), (0, .ref mi_RO)], [.int 0], (149, 5163), h2)) (by rw [mi_l_cmp]) ?_
  refine mi_l_steps cx 1 _ (1495, [(3, .int 0), (2, .ref 116), (1, .ref 0), (0, .ref mi_RO)], [], (149, 5163), h2) (by rfl) ?_
  exact mk_tail cx (Nat.le_refl 6) hr hlocks
set_option maxRecDepth 100000 in
set_option maxHeartbeats 4000000 in
theorem ml_shift {a0 a1 a2 a3 a4 a5 : Int32} (cx : mi_CxL p s m c b ra cT D [a0, a1, a2, a3, a4, a5]) (hr : meth.sig.returnType = ret) (hlocks : meth.locks = false) (hk : (a0 &&& 63) = 35) : mi_LW p l e s m below meth c b ra cT D (33, [(3, .int 0), (2, .ref 116), (1, .ref 0), (0, .ref mi_RO)], [.int (a0 &&& 63)], (149, 5163), mi_G) := by
  obtain ⟨r, h1, h2, dx, dr, h9, hdx, hdr, Mx, Mr⟩ := mi_P_int (mp_shift a1 a2 a3 a4 a5) rfl (qx := (mi_h117, mi_c117)) (qr := (mi_h223, mi_c223)) rfl rfl
  refine mi_l_eq (x1 := (33, [(3, .int 0), (2, .ref 116), (1, .ref 0), (0, .ref mi_RO)], [.int 35], (149, 5163), mi_G)) (by rw [hk]) ?_
  refine mi_l_steps cx 27 _ (1402, [(3, .int 0), (2, .ref 116), (1, .ref 0), (0, .ref mi_RO)], [.int a5, .int a4, .int a3, .int a2, .int a1, .ref 0], (149, 5163), mi_G) (by rfl) ?_
  refine mi_l_call cx (i := (.invokevirtual 162, 3, 117, 0, 9, 0, 315)) (by rfl) (by rfl) Mx hdx ⟨rfl, rfl⟩ ?_
  refine mi_l_steps cx 26 _ (1431, [(3, .int 0), (2, .ref 116), (1, .ref 0), (0, .ref mi_RO)], [.int a5, .int a4, .int a3, .int a2, .int a1, .ref 116, .int r], (149, 5163), h1) (by rfl) ?_
  refine mi_l_call cx (i := (.invokevirtual 166, 3, 223, 0, 9, 0, 477)) (by rfl) ((mi_l_inv h9 rfl rfl).trans (by rfl)) Mr hdr ⟨rfl, rfl⟩ ?_
  refine mi_l_b cx (r == r) true (beq_self_eq_true r) 1495 1437 ([(3, .int 0), (2, .ref 116), (1, .ref 0), (0, .ref mi_RO)], [], (149, 5163), h2) (by rfl) ?_
  exact mk_tail cx (Nat.le_refl 6) hr hlocks
set_option maxRecDepth 100000 in
set_option maxHeartbeats 4000000 in
theorem ml_taken {a0 a1 a2 a3 a4 a5 : Int32} (cx : mi_CxL p s m c b ra cT D [a0, a1, a2, a3, a4, a5]) (hr : meth.sig.returnType = ret) (hlocks : meth.locks = false) (hk : (a0 &&& 63) = 36) : mi_LW p l e s m below meth c b ra cT D (33, [(3, .int 0), (2, .ref 116), (1, .ref 0), (0, .ref mi_RO)], [.int (a0 &&& 63)], (149, 5163), mi_G) := by
  obtain ⟨r, h1, h2, dx, dr, h9, hdx, hdr, Mx, Mr⟩ := mi_P_int (mp_taken a1 a2) rfl (qx := (mi_h118, mi_c118)) (qr := (mi_h224, mi_c224)) rfl rfl
  refine mi_l_eq (x1 := (33, [(3, .int 0), (2, .ref 116), (1, .ref 0), (0, .ref mi_RO)], [.int 36], (149, 5163), mi_G)) (by rw [hk]) ?_
  refine mi_l_steps cx 12 _ (1450, [(3, .int 0), (2, .ref 116), (1, .ref 0), (0, .ref mi_RO)], [.int a2, .int a1, .ref 0], (149, 5163), mi_G) (by rfl) ?_
  refine mi_l_call cx (i := (.invokevirtual 167, 3, 118, 0, 9, 0, 318)) (by rfl) (by rfl) Mx hdx ⟨rfl, rfl⟩ ?_
  refine mi_l_steps cx 11 _ (1464, [(3, .int 0), (2, .ref 116), (1, .ref 0), (0, .ref mi_RO)], [.int a2, .int a1, .ref 116, .int r], (149, 5163), h1) (by rfl) ?_
  refine mi_l_call cx (i := (.invokevirtual 170, 3, 224, 0, 9, 0, 478)) (by rfl) ((mi_l_inv h9 rfl rfl).trans (by rfl)) Mr hdr ⟨rfl, rfl⟩ ?_
  refine mi_l_b cx (r == r) true (beq_self_eq_true r) 1495 1470 ([(3, .int 0), (2, .ref 116), (1, .ref 0), (0, .ref mi_RO)], [], (149, 5163), h2) (by rfl) ?_
  exact mk_tail cx (Nat.le_refl 6) hr hlocks
set_option maxRecDepth 100000 in
set_option maxHeartbeats 4000000 in
theorem ml_count {a0 a1 a2 a3 a4 a5 : Int32} (cx : mi_CxL p s m c b ra cT D [a0, a1, a2, a3, a4, a5]) (hr : meth.sig.returnType = ret) (hlocks : meth.locks = false) (hk : (a0 &&& 63) = 37) : mi_LW p l e s m below meth c b ra cT D (33, [(3, .int 0), (2, .ref 116), (1, .ref 0), (0, .ref mi_RO)], [.int (a0 &&& 63)], (149, 5163), mi_G) := by
  obtain ⟨r, h1, h2, dx, dr, h9, hdx, hdr, Mx, Mr⟩ := mi_P_int (mp_count a1) rfl (qx := (mi_h119, mi_c119)) (qr := (mi_h225, mi_c225)) rfl rfl
  refine mi_l_eq (x1 := (33, [(3, .int 0), (2, .ref 116), (1, .ref 0), (0, .ref mi_RO)], [.int 37], (149, 5163), mi_G)) (by rw [hk]) ?_
  refine mi_l_steps cx 7 _ (1478, [(3, .int 0), (2, .ref 116), (1, .ref 0), (0, .ref mi_RO)], [.int a1, .ref 0], (149, 5163), mi_G) (by rfl) ?_
  refine mi_l_call cx (i := (.invokevirtual 171, 3, 119, 0, 9, 0, 320)) (by rfl) (by rfl) Mx hdx ⟨rfl, rfl⟩ ?_
  refine mi_l_steps cx 6 _ (1487, [(3, .int 0), (2, .ref 116), (1, .ref 0), (0, .ref mi_RO)], [.int a1, .ref 116, .int r], (149, 5163), h1) (by rfl) ?_
  refine mi_l_call cx (i := (.invokevirtual 174, 3, 225, 0, 9, 0, 479)) (by rfl) ((mi_l_inv h9 rfl rfl).trans (by rfl)) Mr hdr ⟨rfl, rfl⟩ ?_
  refine mi_l_b cx (r == r) true (beq_self_eq_true r) 1495 1493 ([(3, .int 0), (2, .ref 116), (1, .ref 0), (0, .ref mi_RO)], [], (149, 5163), h2) (by rfl) ?_
  exact mk_tail cx (Nat.le_refl 6) hr hlocks
set_option maxRecDepth 100000 in
set_option maxHeartbeats 4000000 in
theorem ml_default {a0 a1 a2 a3 a4 a5 : Int32} (cx : mi_CxL p s m c b ra cT D [a0, a1, a2, a3, a4, a5]) (hr : meth.sig.returnType = ret) (hlocks : meth.locks = false) (hk : 37 < (a0 &&& 63).toInt) : mi_LW p l e s m below meth c b ra cT D (33, [(3, .int 0), (2, .ref 116), (1, .ref 0), (0, .ref mi_RO)], [.int (a0 &&& 63)], (149, 5163), mi_G) := by
  refine mi_l_sw cx (ls := [(3, .int 0), (2, .ref 116), (1, .ref 0), (0, .ref mi_RO)]) (r := []) (h := mi_G) (v := (a0 &&& 63)) (i := (.tableswitch 1462 0 37 #[167, 200, 243, 286, 319, 342, 355, 388, 431, 474, 517, 560, 613, 656, 699, 732, 765, 788, 831, 874, 917, 940, 953, 996, 1019, 1032, 1045, 1058, 1071, 1094, 1137, 1160, 1193, 1236, 1309, 1343, 1406, 1439], 167, 0, 0, 0, 0, 0)) (by rfl) rfl (Or.inr hk) 1495 (by rfl) ?_
  exact mk_tail cx (Nat.le_refl 6) hr hlocks
set_option maxRecDepth 100000 in
set_option maxHeartbeats 4000000 in
theorem ml_six {a0 a1 a2 a3 a4 a5 : Int32} (cx : mi_CxL p s m c b ra cT D [a0, a1, a2, a3, a4, a5]) (hr : meth.sig.returnType = ret) (hlocks : meth.locks = false) : mi_LW p l e s m below meth c b ra cT D (33, [(3, .int 0), (2, .ref 116), (1, .ref 0), (0, .ref mi_RO)], [.int (a0 &&& 63)], (149, 5163), mi_G) := by
  have hb := mi_l_and a0
  by_cases h37 : 37 < (a0 &&& 63).toInt
  · exact ml_default cx hr hlocks h37
  have hor : (a0 &&& 63).toInt = 0 ∨ (a0 &&& 63).toInt = 1 ∨ (a0 &&& 63).toInt = 2 ∨ (a0 &&& 63).toInt = 3 ∨ (a0 &&& 63).toInt = 4 ∨ (a0 &&& 63).toInt = 5 ∨ (a0 &&& 63).toInt = 6 ∨ (a0 &&& 63).toInt = 7 ∨ (a0 &&& 63).toInt = 8 ∨ (a0 &&& 63).toInt = 9 ∨ (a0 &&& 63).toInt = 10 ∨ (a0 &&& 63).toInt = 11 ∨ (a0 &&& 63).toInt = 12 ∨ (a0 &&& 63).toInt = 13 ∨ (a0 &&& 63).toInt = 14 ∨ (a0 &&& 63).toInt = 15 ∨ (a0 &&& 63).toInt = 16 ∨ (a0 &&& 63).toInt = 17 ∨ (a0 &&& 63).toInt = 18 ∨ (a0 &&& 63).toInt = 19 ∨ (a0 &&& 63).toInt = 20 ∨ (a0 &&& 63).toInt = 21 ∨ (a0 &&& 63).toInt = 22 ∨ (a0 &&& 63).toInt = 23 ∨ (a0 &&& 63).toInt = 24 ∨ (a0 &&& 63).toInt = 25 ∨ (a0 &&& 63).toInt = 26 ∨ (a0 &&& 63).toInt = 27 ∨ (a0 &&& 63).toInt = 28 ∨ (a0 &&& 63).toInt = 29 ∨ (a0 &&& 63).toInt = 30 ∨ (a0 &&& 63).toInt = 31 ∨ (a0 &&& 63).toInt = 32 ∨ (a0 &&& 63).toInt = 33 ∨ (a0 &&& 63).toInt = 34 ∨ (a0 &&& 63).toInt = 35 ∨ (a0 &&& 63).toInt = 36 ∨ (a0 &&& 63).toInt = 37 := by omega
  rcases hor with hh | hh | hh | hh | hh | hh | hh | hh | hh | hh | hh | hh | hh | hh | hh | hh | hh | hh | hh | hh | hh | hh | hh | hh | hh | hh | hh | hh | hh | hh | hh | hh | hh | hh | hh | hh | hh | hh
  · exact ml_buyer cx hr hlocks (Int32.toInt_inj.mp (hh.trans (by decide)))
  · exact ml_buyers cx hr hlocks (Int32.toInt_inj.mp (hh.trans (by decide)))
  · exact ml_mend cx hr hlocks (Int32.toInt_inj.mp (hh.trans (by decide)))
  · exact ml_of cx hr hlocks (Int32.toInt_inj.mp (hh.trans (by decide)))
  · exact ml_feed cx hr hlocks (Int32.toInt_inj.mp (hh.trans (by decide)))
  · exact ml_law cx hr hlocks (Int32.toInt_inj.mp (hh.trans (by decide)))
  · exact ml_book cx hr hlocks (Int32.toInt_inj.mp (hh.trans (by decide)))
  · exact ml_market cx hr hlocks (Int32.toInt_inj.mp (hh.trans (by decide)))
  · exact ml_coming cx hr hlocks (Int32.toInt_inj.mp (hh.trans (by decide)))
  · exact ml_later cx hr hlocks (Int32.toInt_inj.mp (hh.trans (by decide)))
  · exact ml_onceMore cx hr hlocks (Int32.toInt_inj.mp (hh.trans (by decide)))
  · exact ml_hired cx hr hlocks (Int32.toInt_inj.mp (hh.trans (by decide)))
  · exact ml_latch cx hr hlocks (Int32.toInt_inj.mp (hh.trans (by decide)))
  · exact ml_order cx hr hlocks (Int32.toInt_inj.mp (hh.trans (by decide)))
  · exact ml_flow cx hr hlocks (Int32.toInt_inj.mp (hh.trans (by decide)))
  · exact ml_round cx hr hlocks (Int32.toInt_inj.mp (hh.trans (by decide)))
  · exact ml_judge cx hr hlocks (Int32.toInt_inj.mp (hh.trans (by decide)))
  · exact ml_fits cx hr hlocks (Int32.toInt_inj.mp (hh.trans (by decide)))
  · exact ml_byTurns cx hr hlocks (Int32.toInt_inj.mp (hh.trans (by decide)))
  · exact ml_drawn cx hr hlocks (Int32.toInt_inj.mp (hh.trans (by decide)))
  · exact ml_comes cx hr hlocks (Int32.toInt_inj.mp (hh.trans (by decide)))
  · exact ml_evening cx hr hlocks (Int32.toInt_inj.mp (hh.trans (by decide)))
  · exact ml_gives cx hr hlocks (Int32.toInt_inj.mp (hh.trans (by decide)))
  · exact ml_led cx hr hlocks (Int32.toInt_inj.mp (hh.trans (by decide)))
  · exact ml_image cx hr hlocks (Int32.toInt_inj.mp (hh.trans (by decide)))
  · exact ml_back cx hr hlocks (Int32.toInt_inj.mp (hh.trans (by decide)))
  · exact ml_undo cx hr hlocks (Int32.toInt_inj.mp (hh.trans (by decide)))
  · exact ml_redo cx hr hlocks (Int32.toInt_inj.mp (hh.trans (by decide)))
  · exact ml_body cx hr hlocks (Int32.toInt_inj.mp (hh.trans (by decide)))
  · exact ml_act cx hr hlocks (Int32.toInt_inj.mp (hh.trans (by decide)))
  · exact ml_trace cx hr hlocks (Int32.toInt_inj.mp (hh.trans (by decide)))
  · exact ml_keep cx hr hlocks (Int32.toInt_inj.mp (hh.trans (by decide)))
  · exact ml_row cx hr hlocks (Int32.toInt_inj.mp (hh.trans (by decide)))
  · exact ml_put cx hr hlocks (Int32.toInt_inj.mp (hh.trans (by decide)))
  · exact ml_element cx hr hlocks (Int32.toInt_inj.mp (hh.trans (by decide)))
  · exact ml_shift cx hr hlocks (Int32.toInt_inj.mp (hh.trans (by decide)))
  · exact ml_taken cx hr hlocks (Int32.toInt_inj.mp (hh.trans (by decide)))
  · exact ml_count cx hr hlocks (Int32.toInt_inj.mp (hh.trans (by decide)))
set_option maxRecDepth 100000 in
set_option maxHeartbeats 4000000 in
theorem ml_begin (cx : mi_CxL p s m c b ra cT D xl) (k : mi_LW p l e s m below meth c b ra cT D (18, [(3, .int 0), (2, .ref 116), (1, .ref 0), (0, .ref mi_RO)], [], (149, 5163), mi_G)) : mi_LW p l e s m below meth c b ra cT D (0, [(0, .ref mi_RO)], [], (0, 0), []) := by
  have M1 : mi_Met mi_N0 6 mi_h79 [.ref 0] [.inl (8, mi_df 8)] none (mi_G.take 116) := mi_fun_ok mi_N0 6 79 (mi_h79, mi_c79) _ _ _ _ rfl mi_G1
  have M2 : mi_Met mi_N0 6 mi_h130 [.ref 116] (mi_G.take 116 ++ [.inl (9, mi_df 9)]) none mi_G := mi_fun_ok mi_N0 6 130 (mi_h130, mi_c130) _ _ _ _ rfl mi_G2
  refine mi_l_steps cx 2 _ (4, [(0, .ref mi_RO)], [.ref 0, .ref 0], (1, 8), [.inl (8, mi_df 8)]) (by rfl) ?_
  refine mi_l_call cx (i := (.invokespecial 9, 3, 79, 0, 9, 0, 1)) (by rfl) (by rfl) M1 (by decide) ⟨rfl, rfl⟩ ?_
  refine mi_l_steps cx 3 _ (12, [(1, .ref 0), (0, .ref mi_RO)], [.ref 116, .ref 116], (117, 2964), mi_G.take 116 ++ [.inl (9, mi_df 9)]) (by rfl) ?_
  refine mi_l_call cx (i := (.invokespecial 12, 3, 130, 0, 9, 0, 322)) (by rfl) (by rfl) M2 (by decide) ⟨rfl, rfl⟩ ?_
  refine mi_l_steps cx 3 _ (18, [(3, .int 0), (2, .ref 116), (1, .ref 0), (0, .ref mi_RO)], [], (149, 5163), mi_G) (by rfl) ?_
  exact k
set_option maxRecDepth 100000 in
set_option maxHeartbeats 4000000 in
theorem ml_all (cx : mi_CxL p s m c b ra cT D xl) (hr : meth.sig.returnType = ret) (hlocks : meth.locks = false) (hL : xl.length ≤ 6) : mi_LW p l e s m below meth c b ra cT D (0, [(0, .ref mi_RO)], [], (0, 0), []) := by
  refine ml_begin cx ?_
  match xl, hL, cx with
  | [], _, cx => exact mk_at18 cx true (by show decide (Int32.ofNat 0 - 6 < 0) = true; decide) (mk_out cx hr hlocks)
  | [_], _, cx => exact mk_at18 cx true (by show decide (Int32.ofNat 1 - 6 < 0) = true; decide) (mk_out cx hr hlocks)
  | [_, _], _, cx => exact mk_at18 cx true (by show decide (Int32.ofNat 2 - 6 < 0) = true; decide) (mk_out cx hr hlocks)
  | [_, _, _], _, cx => exact mk_at18 cx true (by show decide (Int32.ofNat 3 - 6 < 0) = true; decide) (mk_out cx hr hlocks)
  | [_, _, _, _], _, cx => exact mk_at18 cx true (by show decide (Int32.ofNat 4 - 6 < 0) = true; decide) (mk_out cx hr hlocks)
  | [_, _, _, _, _], _, cx => exact mk_at18 cx true (by show decide (Int32.ofNat 5 - 6 < 0) = true; decide) (mk_out cx hr hlocks)
  | [a0, a1, a2, a3, a4, a5], _, cx =>
    refine mk_at18 cx false (by show decide (Int32.ofNat 6 - 6 < 0) = false; decide) ?_
    refine mi_l_steps cx 5 _ (33, [(3, .int 0), (2, .ref 116), (1, .ref 0), (0, .ref mi_RO)], [.int (a0 &&& 63)], (149, 5163), mi_G) (by rfl) ?_
    exact ml_six cx hr hlocks
  | _ :: _ :: _ :: _ :: _ :: _ :: _ :: r, hL, _ =>
    exact absurd hL (by simp only [List.length_cons]; omega)
end MIL
