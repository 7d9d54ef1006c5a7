/-! ONE STEP: pure, at the heap, a call, a return -/
abbrev mi_S : Type := Nat × mi_L × List Value × (Nat × Nat) × mi_H
abbrev mi_R : Type := Option Value × mi_H
abbrev mi_F : Type := Nat → List Value → mi_H → Option mi_R
def mi_hp (N : mi_N) (lim : Nat × Nat) (ins : Instr) (ax : mi_X) (pc : Nat) (st : List Value) (cn : Nat × Nat) (h : mi_H) : Option (Nat × List Value × (Nat × Nat) × mi_H) := match ins with
  | .getfield _ => mi_hGet N ax pc st cn h
  | .putfield _ => mi_hPut ax pc st cn h
  | .getstatic _ => mi_hStat N ax pc st cn h
  | .iaload => mi_hIald N pc st cn h
  | .baload => mi_hBald N pc st cn h
  | .laload => mi_hLald pc st cn h
  | .aaload => mi_hAald pc st cn h
  | .iastore => mi_hIast pc st cn h
  | .lastore => mi_hLast pc st cn h
  | .aastore => mi_hAast pc st cn h
  | .arraylength => mi_hAlen N pc st cn h
  | .ldc _ => mi_hLdc ax pc st cn h
  | .ldc_w _ => mi_hLdw ax pc st cn h
  | .ldc2_w _ => mi_hLd2 ax pc st cn h
  | .new _ => mi_hNew ax lim pc st cn h
  | .newarray t => mi_hNewa t lim pc st cn h
  | .anewarray _ => mi_hNewq ax lim pc st cn h
  | .multianewarray _ d => mi_hMna ax d lim pc st cn h
  | .invokespecial _ => mi_hObj ax pc st cn h
  | .invokestatic _ => (match Nat.beq ax.2.2.1 11 with
    | true => mi_hCopy pc st cn h
    | false => (match Nat.ble cn.1 lim.1 && Nat.ble cn.2 lim.2 with
      | true => mi_hMm ax pc st cn h
      | false => none))
  | _ => none
/-- a call: the callee's number and head, its arguments, what stays on the stack -/
def mi_inv (N : mi_N) (ins : Instr) (ax : mi_X) (st : List Value) (h : mi_H) : Option (Nat × mi_M × List Value × List Value) := match ins with
  | .invokestatic _ => (match Nat.beq ax.2.2.1 9 with
    | true => (match mi_heads[ax.1]? with
      | some r => (match Nat.beq r.2.2.2.2.2.2.1 0 && Nat.ble r.2.2.2.2.2.1 st.length && Nat.ble (mi_sum (st.drop r.2.2.2.2.2.1)) 8 with
        | true => some (ax.1, r, (st.take r.2.2.2.2.2.1).reverse, st.drop r.2.2.2.2.2.1)
        | false => none)
      | none => none)
    | false => none)
  | .invokevirtual _ => (match Nat.beq ax.2.2.1 9 with
    | true => (match mi_heads[ax.1]? with
      | some r => (match st.drop r.2.2.2.2.2.1 with
        | .ref b :: rest => (match Nat.beq r.2.2.2.2.2.2.1 1 && Nat.ble (r.2.2.2.2.2.1 + 1) st.length && Nat.ble (mi_sum rest) 8 && (match Nat.blt b mi_RO with
            | true => (match h[b]? with
              | some (.inl q) => Nat.beq q.1 r.2.2.2.2.1
              | _ => false)
            | false => Nat.beq r.2.2.2.2.1 100 && (N.2.2 (b - mi_RO) 0).isSome) with
          | true => some (ax.1, r, .ref b :: (st.take r.2.2.2.2.2.1).reverse, rest)
          | false => none)
        | _ => none)
      | none => none)
    | false => none)
  | .invokespecial _ => (match Nat.beq ax.2.2.1 9 || Nat.beq ax.2.2.1 10 with
    | true => (match mi_heads[ax.1]? with
      | some r => (match st.drop r.2.2.2.2.2.1 with
        | .ref b :: rest => (match Nat.beq r.2.2.2.2.2.2.1 2 && Nat.ble (r.2.2.2.2.2.1 + 1) st.length && Nat.ble (mi_sum rest) 8 with
          | true => some (ax.1, r, .ref b :: (st.take r.2.2.2.2.2.1).reverse, rest)
          | false => none)
        | _ => none)
      | none => none)
    | false => none)
  | _ => none
def mi_ret (ret : Option FieldType) (ins : Instr) (st : List Value) : Option (Option Value) := match ins with
  | .ireturn => (match st, ret with
    | [.int v], some ty => (match mi_okv ty (.int v) with
      | true => some (some (.int v))
      | false => none)
    | _, _ => none)
  | .lreturn => (match st, ret with
    | [.long v], some .long => some (some (.long v))
    | _, _ => none)
  | .areturn => (match st, ret with
    | [.ref a], some (.object _) => some (some (.ref a))
    | [.ref a], some (.array _) => some (some (.ref a))
    | _, _ => none)
  | .return_ => (match st, ret with
    | [], none => some none
    | _, _ => none)
  | _ => none
def mi_step (N : mi_N) (cal : mi_F) (q : mi_M × List (Nat × mi_I)) (x : mi_S) : Option (mi_S ⊕ mi_R) := match mi_find q.2 x.1 with
  | none => none
  | some i => (match mi_pure i.1 x.1 q.1.2.2.1 x.2.1 x.2.2.1 with
    | some z => some (.inl (z.1, z.2.1, z.2.2, x.2.2.2.1, x.2.2.2.2))
    | none => (match mi_hp N (q.1.2.2.2.2.2.2.2.1, q.1.2.2.2.2.2.2.2.2) i.1 i.2.2 x.1 x.2.2.1 x.2.2.2.1 x.2.2.2.2 with
      | some z => some (.inl (z.1, x.2.1, z.2.1, z.2.2.1, z.2.2.2))
      | none => (match mi_inv N i.1 i.2.2 x.2.2.1 x.2.2.2.2 with
        | some z => (match Nat.ble (x.2.2.2.1.1 + z.2.1.2.2.2.2.2.2.2.1) q.1.2.2.2.2.2.2.2.1 && Nat.ble (x.2.2.2.1.2 + z.2.1.2.2.2.2.2.2.2.2) q.1.2.2.2.2.2.2.2.2 with
          | true => (match cal z.1 z.2.2.1 x.2.2.2.2 with
            | some y => some (.inl (x.1 + 3, x.2.1, y.1.toList ++ z.2.2.2, (x.2.2.2.1.1 + z.2.1.2.2.2.2.2.2.2.1, x.2.2.2.1.2 + z.2.1.2.2.2.2.2.2.2.2), y.2))
            | none => none)
          | false => none)
        | none => (match mi_ret q.1.2.2.2.1 i.1 x.2.2.1 with
          | some v => (match Nat.ble x.2.2.2.1.1 q.1.2.2.2.2.2.2.2.1 && Nat.ble x.2.2.2.1.2 q.1.2.2.2.2.2.2.2.2 with
            | true => some (.inr (v, x.2.2.2.2))
            | false => none)
          | none => none))))
noncomputable def mi_run (N : mi_N) (cal : mi_F) (q : mi_M × List (Nat × mi_I)) (n : Nat) : mi_S → Option mi_R := Nat.rec (fun _ => none) (fun _ self x => match mi_step N cal q x with
  | some (.inl x1) => self x1
  | some (.inr r) => some r
  | none => none) n
noncomputable def mi_steps (N : mi_N) (cal : mi_F) (q : mi_M × List (Nat × mi_I)) (n : Nat) : mi_S → Option mi_S := Nat.rec (fun x => some x) (fun _ self x => match mi_step N cal q x with
  | some (.inl x1) => self x1
  | _ => none) n
noncomputable def mi_fun (N : mi_N) (d : Nat) : mi_F := Nat.rec (fun _ _ _ => none) (fun _ self y as h => match mi_prog[y]? with
  | some q => (match Nat.ble (lg_sl as).length q.1.2.2.1 && !(Nat.beq q.1.2.2.2.2.2.2.1 3) with
    | true => mi_run N self q 1000000 (0, lv_args 0 as, [], (0, 0), h)
    | false => none)
  | none => none) d
section MIS
variable {p : Program} {l : Launch} {e : Env} {R : Room} {s : State} {m : MethodId} {args : Array Value} {below : List Frame} {meth : Method} {c : Code} {Q : State → Prop}
variable {cc : ByteArray} {pc nL : Nat} {ls : mi_L} {st : List Value} {len : Nat} {N : mi_N} {base own : Nat} {ra : Nat → Nat} {cT : FieldType → ClassId} {D : va_G} {ini : Bool} {ax : mi_X} {cn cn1 lim : Nat × Nat} {h h1 : mi_H} {pc1 : Nat} {st1 : List Value}
theorem mi_hp_ok (cx : mi_Cx N base ra cT D own cc nL p s m args c) {ins : Instr} (hd : decode cc pc = .ok (ins, len)) (hlen : mi_len ins len = true) (hok : mi_ok own ini ins ax) (hini : ini = true → meth.name = "<init>") (hlim : lim.1 ≤ R.cells ∧ lim.2 ≤ R.slots) (hR : 1 ≤ R.frames ∧ 60 ≤ R.locals) (hh : mi_hp N lim ins ax pc st cn h = some (pc1, st1, cn1, h1)) (kk : mi_Wq base ra cT D nL p l e R s m args below meth c Q pc1 ls st1 cn1 h1) : mi_Wq base ra cT D nL p l e R s m args below meth c Q pc ls st cn h := by
  cases ins with
  | getfield i => exact mi_q_getfield cx hd hlen hok hh kk
  | putfield i => exact mi_q_putfield cx hd hlen hok hini hh kk
  | getstatic i => exact mi_q_getstatic cx hd hlen hok hh kk
  | iaload => exact mi_q_iaload cx hd hlen hok hh kk
  | baload => exact mi_q_baload cx hd hlen hok hh kk
  | laload => exact mi_q_laload cx hd hlen hok hh kk
  | aaload => exact mi_q_aaload cx hd hlen hok hh kk
  | iastore => exact mi_q_iastore cx hd hlen hok hh kk
  | lastore => exact mi_q_lastore cx hd hlen hok hh kk
  | aastore => exact mi_q_aastore cx hd hlen hok hh kk
  | arraylength => exact mi_q_arraylength cx hd hlen hok hh kk
  | ldc i => exact mi_q_ldc cx hd hlen hok hh kk
  | ldc_w i => exact mi_q_ldc_w cx hd hlen hok hh kk
  | ldc2_w i => exact mi_q_ldc2_w cx hd hlen hok hh kk
  | new i => exact mi_q_new cx hd hlen hok hlim hh kk
  | newarray t => exact mi_q_newarray cx hd hlen hok hlim hh kk
  | anewarray i => exact mi_q_anewarray cx hd hlen hok hlim hh kk
  | multianewarray i d => exact mi_q_mna cx hd hlen hok hlim hh kk
  | invokespecial i => exact mi_q_obj cx hd hlen hok hR hh kk
  | invokestatic i =>
    unfold mi_hp at hh
    dsimp only at hh
    split at hh
    next h11 => exact mi_q_copy cx hd hlen hok (Nat.eq_of_beq_eq_true h11) hR hh kk
    next =>
      split at hh
      next hc =>
        obtain ⟨h1, h2⟩ := Bool.and_eq_true_iff.mp hc
        have h1 := Nat.le_of_ble_eq_true h1
        have h2 := Nat.le_of_ble_eq_true h2
        exact mi_q_mm cx hd hlen hok hR ⟨by omega, by omega⟩ hh kk
      next => cases hh
  | _ => simp [mi_hp] at hh
/-- the words, the room, the worlds of a contract -/
def mi_ws (r : mi_M) : List Cond := .code r.1 (mi_bytes r) r.2.2.1 r.2.2.2.1 :: mi_good
def mi_rm (r : mi_M) (d : Nat) : Room := { frames := d + 1, cells := r.2.2.2.2.2.2.2.1, slots := r.2.2.2.2.2.2.2.2, locals := 60 * d + 60 }
def mi_B (base : Nat) (ra : Nat → Nat) (cT : FieldType → ClassId) (D : va_G) (h : mi_H) (t : State) : Prop := t.heap.size = base + h.length ∧ va_P D vwCl (mi_W base ra cT h) t.heap ∧ mi_Kn D t ∧ mi_KA cT h t
def mi_Pre (N : mi_N) (base : Nat) (ra : Nat → Nat) (cT : FieldType → ClassId) (D : va_G) (h : mi_H) (U : State) : Prop := mi_B base ra cT D h U ∧ mi_Ext N base ra cT (fun q : Nat => base ≤ q) U U.heap
def mi_Q (base : Nat) (ra : Nat → Nat) (cT : FieldType → ClassId) (D : va_G) (rv : Option Value) (h : mi_H) : Array Value → State → Outcome → State → Prop := fun _ st o t => o = .returned (rv.map (mi_v (mi_ad base ra))) ∧ mi_B base ra cT D h t ∧ va_F (fun q : Nat => base ≤ q) st t
def mi_Met (N : mi_N) (d : Nat) (r : mi_M) (as : List Value) (h : mi_H) (rv : Option Value) (h1 : mi_H) : Prop :=
  ∀ (l : Launch) (base : Nat) (ra : Nat → Nat) (cT : FieldType → ClassId) (D : va_G), Met l r.1 (mi_ws r) (mi_rm r d) (va_Pc (mi_st (mi_ad base ra) as) (mi_Pre N base ra cT D h)) (mi_Q base ra cT D rv h1) r.2.2.2.2.2.2.2.1 r.2.2.2.2.2.2.2.2 (fun q : Nat => base ≤ q)
theorem mi_after {H : Heap} {locs : List Loc} {cells slots mc ms : Nat} {ar : Array Slot} {st0 rest : List Value} {a : Array Value} {rv : Option Value} (hr : va_Run p l e R s m args below meth c H locs cells slots mc ms (F0 m pc ar st0) rest (mi_Q base ra cT D rv h1 a) (fun q : Nat => base ≤ q)) (hS : va_S (fun q : Nat => base ≤ q) s.heap H locs)
    (kk : ∀ (H1 : Heap) (locs1 : List Loc), H1.size = base + h1.length → va_P D vwCl (mi_W base ra cT h1) H1 → mi_KA cT h1 s → va_S (fun q : Nat => base ≤ q) s.heap H1 locs1 → W p l e R s m args below meth c H1 locs1 (cells + mc) (slots + ms) Q (F0 m (pc + 3) ar ((rv.map (mi_v (mi_ad base ra))).toList ++ rest))) : W p l e R s m args below meth c H locs cells slots Q (F0 m pc ar st0) := by
  intro T hT X
  obtain ⟨v, st₀, t, T', L, h0, X', hL, e1, e2, ⟨hv, ⟨b1, b2, b3, b4⟩, hz, hk⟩, st⟩ := hr T hT X
  cases hv
  rw [h0] at hz hk
  have hvm : s.vm.Alike t.vm := by rw [← e2]; exact X'.warmed.alike
  obtain ⟨t2, a1, c1⟩ := kk T'.heap (locs ++ L) (by rw [e1]; exact b1) (by rw [e1]; exact b2) (b4.moved hvm.symm) ⟨Nat.le_trans hS.1 (by rw [e1]; exact hz), fun q g1 g2 => by rw [e1, hk q (Nat.lt_of_lt_of_le g1 hS.1) g2]; exact hS.2.1 q g1 g2, fun q hq => by
      rcases List.mem_append.mp hq with g | g
      · exact hS.2.2 q g
      · exact hL q g⟩ T' rfl X'
  exact ⟨t2, st t2 a1, c1⟩
theorem mi_blind (av : List Value) : FrameBlind (va_Pc av (mi_Pre N base ra cT D h)) := fun a U g mk q => by
  obtain ⟨q0, ⟨b1, b2, b3, b4⟩, hX⟩ := q
  exact ⟨q0, ⟨b1, b2, mi_Kn.moved (u := U) (U := U.calling g mk a) (Vm.Alike.refl U.vm) b3, mi_KA.moved (u := U) (U := U.calling g mk a) (Vm.Alike.refl U.vm) b4⟩, mi_Ext.same (u := U) (U := U.calling g mk a) rfl hX⟩
theorem mi_enter {H : Heap} {locs : List Loc} {U : State} (cx : mi_Cx N base ra cT D own cc nL p s m args c) (hsz : H.size = base + h.length) (hP : va_P D vwCl (mi_W base ra cT h) H) (hKA : mi_KA cT h s) (hS : va_S (fun q : Nat => base ≤ q) s.heap H locs) (hU : U.heap = H) (hW : s.WarmedH U.vm) : mi_Pre N base ra cT D h U := by
  obtain ⟨hx, hb, hml, hown, hts, hKn, hX, hbs⟩ := cx
  refine ⟨⟨by rw [hU]; exact hsz, by rw [hU]; exact hP, hKn.moved hW.alike, hKA.moved hW.alike⟩, ?_⟩
  rw [hU]
  exact (hX.kept hS.2.1).warm hW
theorem mi_ws_good {r : mi_M} (hM : mi_Mk r) : GoodIn mi_good (mi_ws r) := mi_good_self (fun w hw => by
  rcases List.mem_cons.mp hw with rfl | hw
  · exact hM.1
  · exact hw)
theorem mi_take_st (ad : Nat → Nat) (st : List Value) (n : Nat) : mi_st ad st = (mi_st ad (st.take n).reverse).reverse ++ mi_st ad (st.drop n) := by
  unfold mi_st
  rw [List.map_reverse, List.reverse_reverse, ← List.map_append, List.take_append_drop]
theorem mi_room_in {r : mi_M} {d : Nat} (hml : r.2.2.1 ≤ 40) (hR : d + 2 ≤ R.frames ∧ 60 * d + 120 ≤ R.locals) : (mi_rm r d).frames + 1 ≤ R.frames ∧ 8 + (r.2.2.1 + 11) + (mi_rm r d).locals ≤ R.locals := by
  refine ⟨hR.1, ?_⟩
  show 8 + (r.2.2.1 + 11) + (60 * d + 60) ≤ R.locals
  omega
theorem mi_roomw {ad : Nat → Nat} {ar : Array Slot} {st0 rest : List Value} (h : mi_sum rest ≤ 8) : 2 * (F0 m pc ar st0).monitorRoom + ((mi_st ad rest).map fun v => v.category).sum ≤ 8 := by
  show 2 * 0 + _ ≤ 8
  rw [mi_sum_st]
  omega
theorem mi_retst (ad : Nat → Nat) (rv : Option Value) (rest : List Value) : (rv.map (mi_v ad)).toList ++ mi_st ad rest = mi_st ad (rv.toList ++ rest) := by
  cases rv <;> rfl
theorem mi_inv_ok (cx : mi_Cx N base ra cT D own cc nL p s m args c) {ins : Instr} (hd : decode cc pc = .ok (ins, len)) (hlen : mi_len ins len = true) (hok : mi_ok own ini ins ax) {y : Nat} {r : mi_M} {as rest : List Value} (hi : mi_inv N ins ax st h = some (y, r, as, rest)) {d : Nat} {rv : Option Value} (hM : mi_Met N d r as h rv h1) (hR : d + 2 ≤ R.frames ∧ 60 * d + 120 ≤ R.locals) (hf : cn.1 + r.2.2.2.2.2.2.2.1 ≤ R.cells ∧ cn.2 + r.2.2.2.2.2.2.2.2 ≤ R.slots)
    (kk : mi_Wq base ra cT D nL p l e R s m args below meth c Q (pc + 3) ls (rv.toList ++ rest) (cn.1 + r.2.2.2.2.2.2.2.1, cn.2 + r.2.2.2.2.2.2.2.2) h1) : mi_Wq base ra cT D nL p l e R s m args below meth c Q pc ls st cn h := by
  have cx0 := cx
  obtain ⟨hx, hb, hml, hown, hts, hKn, hX, hbs⟩ := cx
  intro H locs ar hsz hP hKA hS har
  cases ins with
  | invokestatic i =>
    cases (beq_iff_eq.mp hlen)
    obtain ⟨⟨w, hw⟩, -⟩ := hok i rfl
    unfold mi_inv at hi
    dsimp only at hi
    split at hi
    next h9 =>
      rw [Nat.eq_of_beq_eq_true h9] at hw
      split at hi
      next r0 hr0 =>
        split at hi
        next hc =>
          cases hi
          obtain ⟨hc, h3⟩ := Bool.and_eq_true_iff.mp hc
          obtain ⟨hk, h2⟩ := Bool.and_eq_true_iff.mp hc
          have hk := Nat.eq_of_beq_eq_true hk
          have h2 := Nat.le_of_ble_eq_true h2
          have h3 := Nat.le_of_ble_eq_true h3
          have hMk := mi_head_ok hr0 (by rw [hk]; decide)
          refine mi_after (a := (mi_st (mi_ad base ra) (st.take r.2.2.2.2.2.1).reverse).toArray) (rest := mi_st (mi_ad base ra) (st.drop r.2.2.2.2.2.1)) (va_runS (n := r.2.2.2.2.2.1) ⟨hx, hb, hml, hown, hts⟩ (hM l base ra cT D) ⟨callB_of _ hts (mi_ws_good hMk) rfl rfl rfl (hts _ hMk.2.1) (hts _ (mi_lk9 hr0 hw)) hMk.2.2.2.1 (mi_room_in hMk.2.2.2.2.1 hR), hts _ (hMk.2.2.2.2.2.2.1 hk)⟩ ⟨mi_blind _, fun U hU hW => ⟨rfl, mi_enter cx0 hsz hP hKA hS hU hW⟩⟩ rfl (by unfold mi_st; rw [List.length_map, List.length_reverse, List.length_take]; omega) har.1 (mi_take_st _ _ _) (mi_roomw h3) hd hf) hS (fun H1 locs1 g1 g2 g3 g4 => ?_)
          rw [mi_retst]
          exact kk H1 locs1 ar g1 g2 g3 g4 har
        next => cases hi
      next => cases hi
    next => cases hi
  | invokevirtual i =>
    cases (beq_iff_eq.mp hlen)
    obtain ⟨⟨w, hw⟩, -⟩ := hok i rfl
    unfold mi_inv at hi
    dsimp only at hi
    split at hi
    next h9 =>
      rw [Nat.eq_of_beq_eq_true h9] at hw
      split at hi
      next r0 hr0 =>
        split at hi
        next b rest0 hdr =>
          split at hi
          next hc =>
            cases hi
            obtain ⟨hc, h4⟩ := Bool.and_eq_true_iff.mp hc
            obtain ⟨hc, h3⟩ := Bool.and_eq_true_iff.mp hc
            obtain ⟨hk, h2⟩ := Bool.and_eq_true_iff.mp hc
            have hk := Nat.eq_of_beq_eq_true hk
            have h2 := Nat.le_of_ble_eq_true h2
            have h3 := Nat.le_of_ble_eq_true h3
            have hMk := mi_head_ok hr0 (by rw [hk]; decide)
            have hrecv : ∃ cellB : Cell, H[mi_ad base ra b]? = some cellB ∧ cellB.vm.isStatics = false ∧ s.vm.findClass r.1.cls = some cellB.cls := by
              split at h4
              next hlo =>
                split at h4
                next q hq =>
                  have h4 := Nat.eq_of_beq_eq_true h4
                  obtain ⟨q1, g1, -⟩ := hP b _ (mi_W_get hq)
                  have g1 : vwCl[q.1]? = some q1 := g1
                  have hrc := va_recv hKn.K0 hP g1 (mi_W_get hq)
                  rw [mi_ad_lo hlo]
                  have e5 : r.1.cls = q1.1 := by rw [← hMk.2.2.2.2.2.1, ← h4]; exact mi_cname_cl g1
                  rw [e5]
                  exact hrc
                next => cases h4
              next hhi =>
                obtain ⟨h5, h6⟩ := Bool.and_eq_true_iff.mp h4
                have h5 := Nat.eq_of_beq_eq_true h5
                obtain ⟨v0, hv0⟩ := Option.isSome_iff_exists.mp h6
                have hO := ((hX.2.2.1 _ _ _ hv0).1).kept hS.2.1
                obtain ⟨cell, g1, g2, g3, -⟩ := hO
                rw [mi_ad_hi hhi]
                have e5 : r.1.cls = "java/lang/String" := by rw [← hMk.2.2.2.2.2.1, h5]; rfl
                rw [e5]
                exact ⟨cell, g1, g2, g3⟩
            have hst : mi_st (mi_ad base ra) st = (mi_st (mi_ad base ra) (st.take r.2.2.2.2.2.1).reverse).reverse ++ .ref (mi_ad base ra b) :: mi_st (mi_ad base ra) rest := by
              rw [mi_take_st (mi_ad base ra) st r.2.2.2.2.2.1, hdr]
              rfl
            have hin := hMk.2.2.2.2.2.2.2.1 hk
            refine mi_after (a := (Value.ref (mi_ad base ra b) :: mi_st (mi_ad base ra) (st.take r.2.2.2.2.2.1).reverse).toArray) (rest := mi_st (mi_ad base ra) rest) (va_runV (C := r.1.cls) (n := r.2.2.2.2.2.1) ⟨hx, hb, hml, hown, hts⟩ (hM l base ra cT D) ⟨callB_of _ hts (mi_ws_good hMk) rfl rfl rfl (hts _ hMk.2.1) (hts _ (mi_lk9 hr0 hw)) hMk.2.2.2.1 (mi_room_in hMk.2.2.2.2.1 hR), hts _ hin.1, hts _ hin.2⟩ ⟨mi_blind _, hrecv, fun U hU hW => ⟨rfl, mi_enter cx0 hsz hP hKA hS hU hW⟩⟩ rfl (by unfold mi_st; rw [List.length_map, List.length_reverse, List.length_take]; omega) har.1 hst (mi_roomw h3) hd hf) hS (fun H1 locs1 g1 g2 g3 g4 => ?_)
            rw [mi_retst]
            exact kk H1 locs1 ar g1 g2 g3 g4 har
          next => cases hi
        next => cases hi
      next => cases hi
    next => cases hi
  | invokespecial i =>
    cases (beq_iff_eq.mp hlen)
    obtain ⟨⟨w, hw⟩, -⟩ := hok i rfl
    unfold mi_inv at hi
    dsimp only at hi
    split at hi
    next h9 =>
      split at hi
      next r0 hr0 =>
        split at hi
        next b rest0 hdr =>
          split at hi
          next hc =>
            cases hi
            obtain ⟨hc, h3⟩ := Bool.and_eq_true_iff.mp hc
            obtain ⟨hk, h2⟩ := Bool.and_eq_true_iff.mp hc
            have hk := Nat.eq_of_beq_eq_true hk
            have h2 := Nat.le_of_ble_eq_true h2
            have h3 := Nat.le_of_ble_eq_true h3
            have hMk := mi_head_ok hr0 (by rw [hk]; decide)
            have hst : mi_st (mi_ad base ra) st = (mi_st (mi_ad base ra) (st.take r.2.2.2.2.2.1).reverse).reverse ++ .ref (mi_ad base ra b) :: mi_st (mi_ad base ra) rest := by
              rw [mi_take_st (mi_ad base ra) st r.2.2.2.2.2.1, hdr]
              rfl
            obtain ⟨hin1, hin2, hin3⟩ := hMk.2.2.2.2.2.2.2.2 hk
            have hMl := hM l base ra cT D
            rcases Bool.or_eq_true_iff.mp h9 with h9 | h9
            · rw [Nat.eq_of_beq_eq_true h9] at hw
              refine mi_after (a := (Value.ref (mi_ad base ra b) :: mi_st (mi_ad base ra) (st.take r.2.2.2.2.2.1).reverse).toArray) (rest := mi_st (mi_ad base ra) rest) (va_runI (bytes := mi_bytes r) (maxL := r.2.2.1) (n := r.2.2.2.2.2.1) ⟨hx, hb, hml, hown, hts⟩ hMl ⟨callB_of (ws' := mi_good) _ hts (mi_ws_good hMk) (by unfold mi_ws; rw [hin3]) rfl rfl (hts _ hMk.2.1) (hts _ (mi_lk9 hr0 hw)) hMk.2.2.2.1 (mi_room_in hMk.2.2.2.2.1 hR), hin2, hts _ hin1⟩ ⟨mi_blind _, fun U hU hW => ⟨rfl, mi_enter cx0 hsz hP hKA hS hU hW⟩⟩ rfl (by unfold mi_st; rw [List.length_map, List.length_reverse, List.length_take]; omega) har.1 hst (mi_roomw h3) hd hf) hS (fun H1 locs1 g1 g2 g3 g4 => ?_)
              rw [mi_retst]
              exact kk H1 locs1 ar g1 g2 g3 g4 har
            · rw [Nat.eq_of_beq_eq_true h9] at hw
              refine mi_after (a := (Value.ref (mi_ad base ra b) :: mi_st (mi_ad base ra) (st.take r.2.2.2.2.2.1).reverse).toArray) (rest := mi_st (mi_ad base ra) rest) (va_runIN (bytes := mi_bytes r) (maxL := r.2.2.1) (n := r.2.2.2.2.2.1) ⟨hx, hb, hml, hown, hts⟩ hMl ⟨va_cnB (ws' := mi_good) _ hts (mi_ws_good hMk) (by unfold mi_ws; rw [hin3]) rfl rfl (hX.2.2.2.1 _ (mi_lk10 hr0 hw)) (hts _ hMk.2.1) hMk.2.2.2.1 (mi_room_in hMk.2.2.2.2.1 hR), hin2, hts _ hin1⟩ ⟨mi_blind _, fun U hU hW => ⟨rfl, mi_enter cx0 hsz hP hKA hS hU hW⟩⟩ rfl (by unfold mi_st; rw [List.length_map, List.length_reverse, List.length_take]; omega) har.1 hst (mi_roomw h3) hd hf) hS (fun H1 locs1 g1 g2 g3 g4 => ?_)
              rw [mi_retst]
              exact kk H1 locs1 ar g1 g2 g3 g4 har
          next => cases hi
        next => cases hi
      next => cases hi
    next => cases hi
  | _ => simp [mi_inv] at hi
end MIS
