/-! RETURNS, STEPS, CONTRACTS -/
theorem mi_okB_ok {own : Nat} {ini : Bool} {pc : Nat} {i : mi_I} (h : mi_okB own ini (pc, i) = true) : mi_len i.1 i.2.1 = true ∧ mi_ok own ini i.1 i.2.2 := by
  unfold mi_okB at h
  obtain ⟨h2, h3⟩ := Bool.and_eq_true_iff.mp h
  refine ⟨h2, fun idx hidx => ?_⟩
  dsimp only at h3
  rw [hidx] at h3
  dsimp only at h3
  obtain ⟨h4, h5⟩ := Bool.and_eq_true_iff.mp h3
  refine ⟨mi_lk_in2 (of_decide_eq_true h4), fun e c hc hf => ?_⟩
  rw [e] at h5
  dsimp only at h5
  rw [hc] at h5
  dsimp only at h5
  rw [hf] at h5
  obtain ⟨h6, h7⟩ := Bool.and_eq_true_iff.mp h5
  exact ⟨h6, Nat.eq_of_beq_eq_true h7⟩
theorem mi_prog_in {q : mi_M × List (Nat × mi_I)} (hq : q ∈ mi_prog) {pc : Nat} {i : mi_I} (hf : mi_find q.2 pc = some i) : decode (mi_bytes q.1) pc = .ok (i.1, i.2.1) ∧ mi_len i.1 i.2.1 = true ∧ mi_ok q.1.2.2.2.2.1 (Nat.beq q.1.2.2.2.2.2.2.1 2) i.1 i.2.2 := by
  obtain ⟨h1, h2⟩ := Bool.and_eq_true_iff.mp (mi_prog_ok q hq)
  have hm := mi_find_in _ _ _ hf
  have h4 := en_all_ok0 h1 hm
  have h5 := mi_okB_ok (List.all_eq_true.mp h2 _ hm)
  exact ⟨h4, h5⟩
theorem mi_prog_head {y : Nat} {q : mi_M × List (Nat × mi_I)} (h : mi_prog[y]? = some q) : mi_heads[y]? = some q.1 := by
  rw [← mi_prog_heads, List.getElem?_map, h]
  rfl
theorem mi_head_prog {y : Nat} {r : mi_M} (h : mi_heads[y]? = some r) : ∃ q, mi_prog[y]? = some q ∧ q.1 = r := by
  rw [← mi_prog_heads, List.getElem?_map] at h
  cases e : mi_prog[y]? with
  | none => rw [e] at h; cases h
  | some q => rw [e] at h; cases h; exact ⟨q, rfl, rfl⟩
theorem mi_inv_head {N : mi_N} {ins : Instr} {ax : mi_X} {st : List Value} {h : mi_H} {y : Nat} {r : mi_M} {as rest : List Value} (hi : mi_inv N ins ax st h = some (y, r, as, rest)) : mi_heads[y]? = some r := by
  cases ins with
  | invokestatic i =>
    unfold mi_inv at hi
    dsimp only at hi
    split at hi
    · split at hi
      next r0 hr0 =>
        split at hi
        · cases hi
          exact hr0
        · cases hi
      next => cases hi
    · cases hi
  | invokevirtual i =>
    unfold mi_inv at hi
    dsimp only at hi
    split at hi
    · split at hi
      next r0 hr0 =>
        split at hi
        · split at hi
          · cases hi
            exact hr0
          · cases hi
        · cases hi
      next => cases hi
    · cases hi
  | invokespecial i =>
    unfold mi_inv at hi
    dsimp only at hi
    split at hi
    · split at hi
      next r0 hr0 =>
        split at hi
        · split at hi
          · cases hi
            exact hr0
          · cases hi
        · cases hi
      next => cases hi
    · cases hi
  | _ => simp [mi_inv] at hi
def mi_calok (N : mi_N) (d : Nat) (cal : mi_F) : Prop := ∀ (y : Nat) (q : mi_M × List (Nat × mi_I)) (as : List Value) (h : mi_H) (rv : Option Value) (h1 : mi_H), mi_prog[y]? = some q → cal y as h = some (rv, h1) → mi_Met N d q.1 as h rv h1
theorem mi_calok_none (N : mi_N) (d : Nat) : mi_calok N d (fun _ _ _ => none) := fun _ _ _ _ _ _ _ h => by cases h
section MIT
variable {p : Program} {l : Launch} {e : Env} {R : Room} {s : State} {m : MethodId} {args : Array Value} {below : List Frame} {meth : Method} {c : Code} {Q : State → Prop}
variable {cc : ByteArray} {pc nL : Nat} {ls : mi_L} {st : List Value} {len : Nat} {N : mi_N} {base own : Nat} {ra : Nat → Nat} {cT : FieldType → ClassId} {D : va_G} {ini : Bool} {ax : mi_X} {cn cn1 lim : Nat × Nat} {h h1 : mi_H} {pc1 : Nat} {st1 : List Value}
theorem mi_ret_ok (cx : mi_Cx N base ra cT D own cc nL p s m args c) {ins : Instr} (hd : decode cc pc = .ok (ins, len)) (hlen : mi_len ins len = true) {ret : Option FieldType} {rv : Option Value} (hi : mi_ret ret ins st = some rv) (hr : meth.sig.returnType = ret) (hlocks : meth.locks = false) {mc ms : Nat} (hcn : cn.1 ≤ mc ∧ cn.2 ≤ ms) :
    mi_Wq base ra cT D nL p l e R s m args below meth c (MQ below (mi_Q base ra cT D rv h) args s mc ms (fun z : Nat => base ≤ z)) pc ls st cn h := by
  obtain ⟨hx, hb, hml, hown, hts, hKn, hX, hbs⟩ := cx
  intro H locs ar hsz hP hKA hS har
  refine W.widen (k := mc) (n := ms) hcn.1 hcn.2 ?_
  have fin : ∀ t : State, t.heap = H → s.WarmedH t.vm → mi_Q base ra cT D rv h args s (.returned (rv.map (mi_v (mi_ad base ra)))) t := fun t ht hW => ⟨rfl, ⟨by rw [ht]; exact hsz, by rw [ht]; exact hP, hKn.moved hW.alike, hKA.moved hW.alike⟩, hS.F ht⟩
  cases ins with
  | ireturn =>
    cases (beq_iff_eq.mp hlen)
    unfold mi_ret at hi
    dsimp only at hi
    split at hi
    next v ty =>
      split at hi
      next hv =>
        cases hi
        exact W.zret hx hb hr (mi_okv_n (ad := mi_ad base ra) hv).1 fin hS.2.2 hd
      next => cases hi
    next => cases hi
  | lreturn =>
    cases (beq_iff_eq.mp hlen)
    unfold mi_ret at hi
    dsimp only at hi
    split at hi
    next v =>
      cases hi
      exact W.lret hx hb hr fin hS.2.2 hd
    next => cases hi
  | areturn =>
    cases (beq_iff_eq.mp hlen)
    unfold mi_ret at hi
    dsimp only at hi
    split at hi
    next a nm =>
      cases hi
      exact W.aret hx hb hr (Or.inl ⟨_, rfl⟩) (Or.inr ⟨_, rfl⟩) fin hS.2.2 hd
    next a nm =>
      cases hi
      exact W.aret hx hb hr (Or.inr ⟨_, rfl⟩) (Or.inr ⟨_, rfl⟩) fin hS.2.2 hd
    next => cases hi
  | return_ =>
    cases (beq_iff_eq.mp hlen)
    unfold mi_ret at hi
    dsimp only at hi
    split at hi
    next =>
      cases hi
      exact W.vret hx hb hr fin hS.2.2 hd
    next => cases hi
  | _ => simp [mi_ret] at hi
theorem mi_step_ok {q : mi_M × List (Nat × mi_I)} (hq : q ∈ mi_prog) (cx : mi_Cx N base ra cT D q.1.2.2.2.2.1 (mi_bytes q.1) q.1.2.2.1 p s m args c) (hini : q.1.2.2.2.2.2.2.1 = 2 → meth.name = "<init>") (hlim : q.1.2.2.2.2.2.2.2.1 ≤ R.cells ∧ q.1.2.2.2.2.2.2.2.2 ≤ R.slots) {d : Nat} (hR : d + 2 ≤ R.frames ∧ 60 * d + 120 ≤ R.locals) {cal : mi_F} (hcal : mi_calok N d cal) {x x1 : mi_S} (hx : mi_step N cal q x = some (.inl x1))
    (kk : mi_Wq base ra cT D q.1.2.2.1 p l e R s m args below meth c Q x1.1 x1.2.1 x1.2.2.1 x1.2.2.2.1 x1.2.2.2.2) : mi_Wq base ra cT D q.1.2.2.1 p l e R s m args below meth c Q x.1 x.2.1 x.2.2.1 x.2.2.2.1 x.2.2.2.2 := by
  unfold mi_step at hx
  split at hx
  next => cases hx
  next i hf =>
    obtain ⟨hd, hlen, hok⟩ := mi_prog_in hq hf
    have hini : Nat.beq q.1.2.2.2.2.2.2.1 2 = true → meth.name = "<init>" := fun z => hini (Nat.eq_of_beq_eq_true z)
    split at hx
    next z hz =>
      cases hx
      intro H locs ar hsz hP hKA hS har
      exact mi_pure_ok cx.1 cx.2.1 hd hlen hz har (fun ar1 har1 => kk H locs ar1 hsz hP hKA hS har1)
    next =>
      split at hx
      next z hz =>
        cases hx
        exact mi_hp_ok cx hd hlen hok hini hlim ⟨by omega, by omega⟩ hz kk
      next =>
        split at hx
        next z hz =>
          split at hx
          next hc =>
            obtain ⟨h1, h2⟩ := Bool.and_eq_true_iff.mp hc
            have h1 := Nat.le_of_ble_eq_true h1
            have h2 := Nat.le_of_ble_eq_true h2
            split at hx
            next y hy =>
              cases hx
              obtain ⟨q2, hq2, e2⟩ := mi_head_prog (mi_inv_head hz)
              have hM := hcal _ _ _ _ _ _ hq2 hy
              rw [e2] at hM
              exact mi_inv_ok cx hd hlen hok hz hM hR ⟨Nat.le_trans h1 hlim.1, Nat.le_trans h2 hlim.2⟩ kk
            next => cases hx
          next => cases hx
        next =>
          split at hx
          next v hv =>
            split at hx
            next => cases hx
            next => cases hx
          next => cases hx
theorem mi_stepret_ok {q : mi_M × List (Nat × mi_I)} (hq : q ∈ mi_prog) (cx : mi_Cx N base ra cT D q.1.2.2.2.2.1 (mi_bytes q.1) q.1.2.2.1 p s m args c) (hr : meth.sig.returnType = q.1.2.2.2.1) (hlocks : meth.locks = false) {cal : mi_F} {x : mi_S} {rv : Option Value} (hx : mi_step N cal q x = some (.inr (rv, h1))) :
    mi_Wq base ra cT D q.1.2.2.1 p l e R s m args below meth c (MQ below (mi_Q base ra cT D rv h1) args s q.1.2.2.2.2.2.2.2.1 q.1.2.2.2.2.2.2.2.2 (fun z : Nat => base ≤ z)) x.1 x.2.1 x.2.2.1 x.2.2.2.1 x.2.2.2.2 := by
  unfold mi_step at hx
  split at hx
  next => cases hx
  next i hf =>
    obtain ⟨hd, hlen, hok⟩ := mi_prog_in hq hf
    split at hx
    next => cases hx
    next =>
      split at hx
      next => cases hx
      next =>
        split at hx
        next =>
          split at hx
          next =>
            split at hx
            next => cases hx
            next => cases hx
          next => cases hx
        next =>
          split at hx
          next v hv =>
            split at hx
            next hc =>
              cases hx
              obtain ⟨h1, h2⟩ := Bool.and_eq_true_iff.mp hc
              exact mi_ret_ok cx hd hlen hv hr hlocks ⟨Nat.le_of_ble_eq_true h1, Nat.le_of_ble_eq_true h2⟩
            next => cases hx
          next => cases hx
end MIT
/-- from state x the method goes to its end, with rv and h1, at depth d -/
def mi_Sem (N : mi_N) (d : Nat) (q : mi_M × List (Nat × mi_I)) (rv : Option Value) (h1 : mi_H) (x : mi_S) : Prop :=
  ∀ (base : Nat) (ra : Nat → Nat) (cT : FieldType → ClassId) (D : va_G) (p : Program) (l : Launch) (e : Env) (s : State) (m : MethodId) (args : Array Value) (below : List Frame) (meth : Method) (c : Code),
    mi_Cx N base ra cT D q.1.2.2.2.2.1 (mi_bytes q.1) q.1.2.2.1 p s m args c → meth.sig.returnType = q.1.2.2.2.1 → meth.locks = false → (q.1.2.2.2.2.2.2.1 = 2 → meth.name = "<init>") →
    mi_Wq base ra cT D q.1.2.2.1 p l e (mi_rm q.1 d) s m args below meth c (MQ below (mi_Q base ra cT D rv h1) args s q.1.2.2.2.2.2.2.2.1 q.1.2.2.2.2.2.2.2.2 (fun z : Nat => base ≤ z)) x.1 x.2.1 x.2.2.1 x.2.2.2.1 x.2.2.2.2
theorem mi_sem_step {N : mi_N} {d : Nat} {q : mi_M × List (Nat × mi_I)} (hq : q ∈ mi_prog) {rv : Option Value} {h1 : mi_H} {cal : mi_F} (hcal : mi_calok N d cal) {x x1 : mi_S} (hx : mi_step N cal q x = some (.inl x1)) (kk : mi_Sem N (d + 1) q rv h1 x1) : mi_Sem N (d + 1) q rv h1 x :=
  fun base ra cT D p l e s m args below meth c cx hr hlocks hini => mi_step_ok hq cx hini ⟨Nat.le_refl _, Nat.le_refl _⟩ (d := d) ⟨Nat.le_refl _, by show 60 * d + 120 ≤ 60 * (d + 1) + 60; omega⟩ hcal hx (kk base ra cT D p l e s m args below meth c cx hr hlocks hini)
theorem mi_sem_ret {N : mi_N} {d : Nat} {q : mi_M × List (Nat × mi_I)} (hq : q ∈ mi_prog) {rv : Option Value} {h1 : mi_H} {cal : mi_F} {x : mi_S} (hx : mi_step N cal q x = some (.inr (rv, h1))) : mi_Sem N d q rv h1 x :=
  fun base ra cT D p l e s m args below meth c cx hr hlocks hini => mi_stepret_ok hq cx hr hlocks hx
theorem mi_sem_run {N : mi_N} {d : Nat} {q : mi_M × List (Nat × mi_I)} (hq : q ∈ mi_prog) {rv : Option Value} {h1 : mi_H} {cal : mi_F} (hcal : mi_calok N d cal) : ∀ (n : Nat) (x : mi_S), mi_run N cal q n x = some (rv, h1) → mi_Sem N (d + 1) q rv h1 x
  | 0, x, h => by cases h
  | n + 1, x, h => by
    have h : (match mi_step N cal q x with
      | some (.inl x1) => mi_run N cal q n x1
      | some (.inr r) => some r
      | none => none) = some (rv, h1) := h
    split at h
    next x1 hx => exact mi_sem_step hq hcal hx (mi_sem_run hq hcal n x1 h)
    next r hx => cases h; exact mi_sem_ret hq hx
    next => cases h
theorem mi_sem_steps {N : mi_N} {d : Nat} {q : mi_M × List (Nat × mi_I)} (hq : q ∈ mi_prog) {rv : Option Value} {h1 : mi_H} {cal : mi_F} (hcal : mi_calok N d cal) : ∀ (n : Nat) (x x1 : mi_S), mi_steps N cal q n x = some x1 → mi_Sem N (d + 1) q rv h1 x1 → mi_Sem N (d + 1) q rv h1 x
  | 0, x, x1, h, k => by cases h; exact k
  | n + 1, x, x1, h, k => by
    have h : (match mi_step N cal q x with
      | some (.inl x2) => mi_steps N cal q n x2
      | _ => none) = some x1 := h
    split at h
    next x2 hx => exact mi_sem_step hq hcal hx (mi_sem_steps hq hcal n x2 x1 h k)
    next => cases h
theorem mi_lg_len (ad : Nat → Nat) : ∀ (as : List Value), (lg_sl (mi_st ad as)).length = (lg_sl as).length
  | [] => rfl
  | v :: as => by
    have h := mi_lg_len ad as
    have e1 : lg_sl (v :: as) = (if v.category = 2 then [Slot.val v, .second] else [.val v]) ++ lg_sl as := by
      unfold lg_sl
      rw [List.flatMap_cons]
    have e2 : lg_sl (mi_st ad (v :: as)) = (if (mi_v ad v).category = 2 then [Slot.val (mi_v ad v), .second] else [.val (mi_v ad v)]) ++ lg_sl (mi_st ad as) := by
      unfold lg_sl mi_st
      rw [List.map_cons, List.flatMap_cons]
    rw [e1, e2, List.length_append, List.length_append, h, mi_v_cat]
    split <;> rfl
theorem mi_lv_args (ad : Nat → Nat) : ∀ (as : List Value) (i : Nat), lv_args i (mi_st ad as) = mi_ls ad (lv_args i as)
  | [], _ => rfl
  | v :: as, i => by
    show (i, mi_v ad v) :: lv_args (if (mi_v ad v).category = 2 then i + 2 else i + 1) (mi_st ad as) = (i, mi_v ad v) :: mi_ls ad (lv_args (if v.category = 2 then i + 2 else i + 1) as)
    rw [mi_v_cat, mi_lv_args ad as]
theorem mi_met_of {N : mi_N} {d y : Nat} {q : mi_M × List (Nat × mi_I)} (hq : mi_prog[y]? = some q) (hk3 : q.1.2.2.2.2.2.2.1 ≠ 3) {as : List Value} (hn : (lg_sl as).length ≤ q.1.2.2.1) {h : mi_H} {rv : Option Value} {h1 : mi_H} (hS : mi_Sem N d q rv h1 (0, lv_args 0 as, [], (0, 0), h)) : mi_Met N d q.1 as h rv h1 := by
  intro l base ra cT D
  have hMk := mi_head_ok (mi_prog_head hq) hk3
  refine Met.ofW (cc := mi_bytes q.1) (maxL := q.1.2.2.1) (ret := q.1.2.2.2.1) (ws' := mi_good) hMk.2.2.1 rfl ?_
  intro p e s m args below meth c s₁ B hml hv
  obtain ⟨rfl, ⟨b1, b2, b3, b4⟩, hX⟩ := hv
  have hts0 := atoms_spec (ws := mi_ws q.1) B.pre
  have hts : ∀ w ∈ mi_good, w.before (mi_st (mi_ad base ra) as).toArray s = true := fun w hw => hts0 w (List.mem_cons_of_mem _ hw)
  have hown : s.vm.findClass q.1.1.cls = some m.cls := findClass_of_methodNamed B.named
  have hin : q.1.2.2.2.2.2.2.1 = 2 → meth.name = "<init>" := fun z => (name_of_methodNamed B.named B.method).1.trans (hMk.2.2.2.2.2.2.2.2 z).2.1
  have cx : mi_Cx N base ra cT D q.1.2.2.2.2.1 (mi_bytes q.1) q.1.2.2.1 p s m (mi_st (mi_ad base ra) as).toArray c := ⟨B.exec, B.bytes, hml, by rw [hMk.2.2.2.2.2.1]; exact hown, hts, b3, hX, by rw [b1]; omega⟩
  have hl := lv_entry (mi_st (mi_ad base ra) as) (n := q.1.2.2.1) (by rw [mi_lg_len]; exact hn)
  rw [lg_entry_eq]
  rw [mi_lv_args] at hl
  exact hS base ra cT D p l e s m _ below meth c cx B.returns B.notSynchronized hin s.heap [] _ b1 b2 b4 va_S.rf hl
theorem mi_fun_ok (N : mi_N) : ∀ d, mi_calok N d (mi_fun N d)
  | 0 => mi_calok_none N 0
  | d + 1 => fun y q as h rv h1 hq hf => by
    have hf : (match mi_prog[y]? with
      | some q => (match Nat.ble (lg_sl as).length q.1.2.2.1 && !(Nat.beq q.1.2.2.2.2.2.2.1 3) with
        | true => mi_run N (mi_fun N d) q 1000000 (0, lv_args 0 as, [], (0, 0), h)
        | false => none)
      | none => none) = some (rv, h1) := hf
    rw [hq] at hf
    dsimp only at hf
    split at hf
    next hc =>
      obtain ⟨h1, h2⟩ := Bool.and_eq_true_iff.mp hc
      refine mi_met_of hq (fun z => ?_) (Nat.le_of_ble_eq_true h1) (mi_sem_run (List.mem_of_getElem? hq) (mi_fun_ok N d) _ _ hf)
      rw [z] at h2
      cases h2
    next => cases hf
