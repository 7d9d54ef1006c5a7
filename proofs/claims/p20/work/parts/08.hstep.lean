/-! STEPS AT THE HEAP, and that the machine does them -/
def mi_Cx (N : mi_N) (base : Nat) (ra : Nat → Nat) (cT : FieldType → ClassId) (D : va_G) (own : Nat) (cc : ByteArray) (nL : Nat) (p : Program) (s : State) (m : MethodId) (args : Array Value) (c : Code) : Prop :=
  p.tables.exec = Jvm.exec ∧ c.code = cc ∧ c.maxLocals = nL ∧ s.vm.findClass (mi_cname own) = some m.cls ∧ (∀ w ∈ mi_good, w.before args s = true) ∧ mi_Kn D s ∧ mi_Ext N base ra cT (fun q : Nat => base ≤ q) s s.heap ∧ base ≤ s.heap.size
def mi_Wq (base : Nat) (ra : Nat → Nat) (cT : FieldType → ClassId) (D : va_G) (nL : Nat) (p : Program) (l : Launch) (e : Env) (R : Room) (s : State) (m : MethodId) (args : Array Value) (below : List Frame) (meth : Method) (c : Code) (Q : State → Prop) (pc : Nat) (ls : mi_L) (st : List Value) (cn : Nat × Nat) (h : mi_H) : Prop :=
  ∀ (H : Heap) (locs : List Loc) (ar : Array Slot), H.size = base + h.length → va_P D vwCl (mi_W base ra cT h) H → mi_KA cT h s → va_S (fun q : Nat => base ≤ q) s.heap H locs → lv_has ar nL (mi_ls (mi_ad base ra) ls) →
    W p l e R s m args below meth c H locs cn.1 cn.2 Q (F0 m pc ar (mi_st (mi_ad base ra) st))
def mi_ok (own : Nat) (ini : Bool) (ins : Instr) (ax : mi_X) : Prop := ∀ i, mi_cpi ins = some i → (∃ w, mi_lkB (own, i, ax.2.2.1, ax.1, ax.2.1, ax.2.2.2.1) w = true) ∧ (ins = .putfield i → ∀ c, vwCl[ax.1]? = some c → (c.2.1 ax.2.1).2.2.2 = true → ini = true ∧ own = ax.1)
theorem mi_cname_cl {ci : Nat} {c : vw_C} (h : vwCl[ci]? = some c) : mi_cname ci = c.1 := by
  have hl : ci < 10 := (List.getElem?_eq_some_iff.mp h).1
  unfold mi_cname
  split <;> first | omega | (rw [h])
theorem mi_ref_lo {base : Nat} {ra : Nat → Nat} {a : Nat} {r : List Value} (h : Nat.blt a mi_RO = true) : mi_st (mi_ad base ra) (.ref a :: r) = .ref (base + a) :: mi_st (mi_ad base ra) r := by
  show Value.ref (mi_ad base ra a) :: _ = _
  rw [mi_ad_lo h]
  rfl
theorem mi_ref_hi {base : Nat} {ra : Nat → Nat} {a : Nat} {r : List Value} (h : Nat.blt a mi_RO = false) : mi_st (mi_ad base ra) (.ref a :: r) = .ref (ra (a - mi_RO)) :: mi_st (mi_ad base ra) r := by
  show Value.ref (mi_ad base ra a) :: _ = _
  rw [mi_ad_hi h]
  rfl
def mi_sum (st : List Value) : Nat := (st.map fun v => v.category).sum
theorem mi_sum_st (ad : Nat → Nat) (st : List Value) : ((mi_st ad st).map fun v => v.category).sum = mi_sum st := by
  unfold mi_st mi_sum
  rw [List.map_map]
  congr 1
  apply List.map_congr_left
  intro v _
  exact mi_v_cat ad v
def mi_hGet (N : mi_N) (ax : mi_X) (pc : Nat) (st : List Value) (cn : Nat × Nat) (h : mi_H) : Option (Nat × List Value × (Nat × Nat) × mi_H) := match st with
  | .ref a :: r => (match Nat.blt a mi_RO with
    | true => (match h[a]? with
      | some (.inl o) => (match Nat.beq o.1 ax.1 && Nat.beq ax.2.2.1 0 with
        | true => (match o.2[ax.2.1]? with
          | some v => some (pc + 3, v :: r, cn, h)
          | none => none)
        | false => none)
      | _ => none)
    | false => (match Nat.beq ax.2.2.1 13 with
      | true => (match N.2.2 (a - mi_RO) ax.2.1 with
        | some v => some (pc + 3, v :: r, cn, h)
        | none => none)
      | false => none))
  | _ => none
def mi_hPut (ax : mi_X) (pc : Nat) (st : List Value) (cn : Nat × Nat) (h : mi_H) : Option (Nat × List Value × (Nat × Nat) × mi_H) := match st with
  | v :: .ref a :: r => (match Nat.blt a mi_RO with
    | true => (match h[a]? with
      | some (.inl o) => (match Nat.beq o.1 ax.1 && Nat.beq ax.2.2.1 0 && Nat.blt ax.2.1 o.2.length && mi_okv (mi_ft ax.1 ax.2.1) v with
        | true => some (pc + 3, r, cn, h.set a (.inl (o.1, o.2.set ax.2.1 v)))
        | false => none)
      | _ => none)
    | false => none)
  | _ => none
def mi_hStat (N : mi_N) (ax : mi_X) (pc : Nat) (st : List Value) (cn : Nat × Nat) (h : mi_H) : Option (Nat × List Value × (Nat × Nat) × mi_H) := match Nat.beq ax.2.2.1 1 || Nat.beq ax.2.2.1 2 with
  | true => (match N.1 ax.1 with
    | some v => some (pc + 3, v :: st, cn, h)
    | none => none)
  | false => none
/-- is i no place of n -/
def mi_off (i : Int32) (n : Nat) : Bool := decide (i < 0) || Nat.ble n i.toNatClampNeg
theorem mi_off_in {i : Int32} {n : Nat} (h : mi_off i n = false) : vp_in i n := by
  obtain ⟨h1, h2⟩ := Bool.or_eq_false_iff.mp h
  rintro (z | z)
  · exact of_decide_eq_false h1 z
  · rw [Nat.ble_eq_true_of_le z] at h2
    cases h2
theorem mi_off_lt {i : Int32} {n : Nat} (h : mi_off i n = false) : i.toNatClampNeg < n := by
  have := mi_off_in h
  unfold vp_in at this
  omega
def mi_hIald (N : mi_N) (pc : Nat) (st : List Value) (cn : Nat × Nat) (h : mi_H) : Option (Nat × List Value × (Nat × Nat) × mi_H) := match st with
  | .int i :: .ref a :: r => (match Nat.blt a mi_RO with
    | true => (match h[a]? with
      | some (.inr (.int, .inl l)) => (match mi_off i l.length with
        | true => none
        | false => some (pc + 1, .int (l.getD i.toNatClampNeg 0) :: r, cn, h))
      | _ => none)
    | false => (match N.2.1 (a - mi_RO) with
      | some (.int, l) => (match mi_off i l.length with
        | true => none
        | false => some (pc + 1, .int (l.getD i.toNatClampNeg 0) :: r, cn, h))
      | _ => none))
  | _ => none
def mi_hBald (N : mi_N) (pc : Nat) (st : List Value) (cn : Nat × Nat) (h : mi_H) : Option (Nat × List Value × (Nat × Nat) × mi_H) := match st with
  | .int i :: .ref a :: r => (match Nat.blt a mi_RO with
    | true => none
    | false => (match N.2.1 (a - mi_RO) with
      | some (.byte, l) => (match mi_off i l.length with
        | true => none
        | false => some (pc + 1, .int (l.getD i.toNatClampNeg 0) :: r, cn, h))
      | _ => none))
  | _ => none
def mi_hLald (pc : Nat) (st : List Value) (cn : Nat × Nat) (h : mi_H) : Option (Nat × List Value × (Nat × Nat) × mi_H) := match st with
  | .int i :: .ref a :: r => (match Nat.blt a mi_RO with
    | true => (match h[a]? with
      | some (.inr (.long, .inr (.inl l))) => (match mi_off i l.length with
        | true => none
        | false => some (pc + 1, .long (l.getD i.toNatClampNeg 0) :: r, cn, h))
      | _ => none)
    | false => none)
  | _ => none
def mi_hAald (pc : Nat) (st : List Value) (cn : Nat × Nat) (h : mi_H) : Option (Nat × List Value × (Nat × Nat) × mi_H) := match st with
  | .int i :: .ref a :: r => (match Nat.blt a mi_RO with
    | true => (match h[a]? with
      | some (.inr (ty, .inr (.inr l))) => (match mi_off i l.length || !ty.isReference with
        | true => none
        | false => (match l.getD i.toNatClampNeg none with
          | some k => some (pc + 1, .ref k :: r, cn, h)
          | none => none))
      | _ => none)
    | false => none)
  | _ => none
def mi_hIast (pc : Nat) (st : List Value) (cn : Nat × Nat) (h : mi_H) : Option (Nat × List Value × (Nat × Nat) × mi_H) := match st with
  | .int x :: .int i :: .ref a :: r => (match Nat.blt a mi_RO with
    | true => (match h[a]? with
      | some (.inr (.int, .inl l)) => (match mi_off i l.length with
        | true => none
        | false => some (pc + 1, r, cn, h.set a (.inr (.int, .inl (l.set i.toNatClampNeg x)))))
      | _ => none)
    | false => none)
  | _ => none
def mi_hLast (pc : Nat) (st : List Value) (cn : Nat × Nat) (h : mi_H) : Option (Nat × List Value × (Nat × Nat) × mi_H) := match st with
  | .long x :: .int i :: .ref a :: r => (match Nat.blt a mi_RO with
    | true => (match h[a]? with
      | some (.inr (.long, .inr (.inl l))) => (match mi_off i l.length with
        | true => none
        | false => some (pc + 1, r, cn, h.set a (.inr (.long, .inr (.inl (l.set i.toNatClampNeg x))))))
      | _ => none)
    | false => none)
  | _ => none
/-- the Shelf array alone -/
def mi_hAast (pc : Nat) (st : List Value) (cn : Nat × Nat) (h : mi_H) : Option (Nat × List Value × (Nat × Nat) × mi_H) := match st with
  | .ref v :: .int i :: .ref a :: r => (match Nat.blt a mi_RO && Nat.blt v mi_RO with
    | true => (match h[a]?, h[v]? with
      | some (.inr (.object C, .inr (.inr l))), some (.inl o) => (match mi_off i l.length || !(Nat.beq o.1 5 && decide (C = RX5)) with
        | true => none
        | false => some (pc + 1, r, cn, h.set a (.inr (.object C, .inr (.inr (l.set i.toNatClampNeg (some v)))))))
      | _, _ => none)
    | false => none)
  | _ => none
def mi_aLen : mi_A → Nat
  | .inl l => l.length
  | .inr (.inl l) => l.length
  | .inr (.inr l) => l.length
def mi_hAlen (N : mi_N) (pc : Nat) (st : List Value) (cn : Nat × Nat) (h : mi_H) : Option (Nat × List Value × (Nat × Nat) × mi_H) := match st with
  | .ref a :: r => (match Nat.blt a mi_RO with
    | true => (match h[a]? with
      | some (.inr x) => some (pc + 1, .int (Int32.ofNat (mi_aLen x.2)) :: r, cn, h)
      | _ => none)
    | false => (match N.2.1 (a - mi_RO) with
      | some x => some (pc + 1, .int (Int32.ofNat x.2.length) :: r, cn, h)
      | none => none))
  | _ => none
def mi_hLdc (ax : mi_X) (pc : Nat) (st : List Value) (cn : Nat × Nat) (h : mi_H) : Option (Nat × List Value × (Nat × Nat) × mi_H) := match ax.2.2.1 with
  | 6 => some (pc + 2, .int (Int32.ofInt ax.2.2.2.1) :: st, cn, h)
  | 8 => some (pc + 2, .ref (mi_RO + (10 + ax.1)) :: st, cn, h)
  | _ => none
def mi_hLdw (ax : mi_X) (pc : Nat) (st : List Value) (cn : Nat × Nat) (h : mi_H) : Option (Nat × List Value × (Nat × Nat) × mi_H) := match ax.2.2.1 with
  | 6 => some (pc + 3, .int (Int32.ofInt ax.2.2.2.1) :: st, cn, h)
  | _ => none
def mi_hLd2 (ax : mi_X) (pc : Nat) (st : List Value) (cn : Nat × Nat) (h : mi_H) : Option (Nat × List Value × (Nat × Nat) × mi_H) := match ax.2.2.1 with
  | 7 => some (pc + 3, .long (Int64.ofInt ax.2.2.2.1) :: st, cn, h)
  | _ => none
theorem mi_lk0 {o i a b w : Nat} {v : Int} (h : mi_lkB (o, i, 0, a, b, v) w = true) : ∃ c, vwCl[a]? = some c ∧ b < c.2.2 ∧ Cond.fieldLink (mi_cname o) i c.1 (c.2.1 b).2.1 (c.2.1 b).2.2.1 ∈ mi_good := by
  have h : (match vwCl[a]? with | some c => Nat.blt b c.2.2 && mi_wd w (.fieldLink (mi_cname o) i c.1 (c.2.1 b).2.1 (c.2.1 b).2.2.1) | none => false) = true := h
  cases e : vwCl[a]? with
  | none => rw [e] at h; cases h
  | some c =>
    rw [e] at h
    obtain ⟨h1, h2⟩ := Bool.and_eq_true_iff.mp h
    exact ⟨c, rfl, mi_blt h1, mi_wd_in h2⟩
theorem mi_lk1 {o i a b w : Nat} {v : Int} {z : String × String × String} (hz : mi_sn[a]? = some z) (h : mi_lkB (o, i, 1, a, b, v) w = true) : Cond.fieldLink (mi_cname o) i z.1 z.2.1 z.2.2 ∈ mi_good := by
  have h : (match mi_sn[a]? with | some z => mi_wd w (.fieldLink (mi_cname o) i z.1 z.2.1 z.2.2) | none => false) = true := h
  rw [hz] at h
  exact mi_wd_in h
theorem mi_lk2 {o i a b w : Nat} {v : Int} {z : String × String × String} (hz : mi_sn[a]? = some z) (h : mi_lkB (o, i, 2, a, b, v) w = true) : Cond.fieldLinkNest (mi_cname o) i z.1 z.2.1 z.2.2 "ThirdAfter" ∈ mi_nest := by
  have h : (match mi_sn[a]? with | some z => mi_nestB w (.fieldLinkNest (mi_cname o) i z.1 z.2.1 z.2.2 "ThirdAfter") | none => false) = true := h
  rw [hz] at h
  exact List.mem_of_getElem? (of_decide_eq_true h)
theorem mi_lk3 {o i a b w : Nat} {v : Int} {z : vw_C} (hz : vwCl[a]? = some z) (h : mi_lkB (o, i, 3, a, b, v) w = true) : Cond.classLink (mi_cname o) i z.1 ∈ mi_good := by
  have h : (match vwCl[a]? with | some c => mi_wd w (.classLink (mi_cname o) i c.1) | none => false) = true := h
  rw [hz] at h
  exact mi_wd_in h
theorem mi_lk5 {o i a b w : Nat} {v : Int} (h : mi_lkB (o, i, 5, a, b, v) w = true) : Cond.classLink (mi_cname o) i "[[I" ∈ mi_good := mi_wd_in (w := w) h
theorem mi_lk6 {o i a b w : Nat} {v : Int} (h : mi_lkB (o, i, 6, a, b, v) w = true) : Cond.constant (mi_cname o) i (Int32.ofInt v) ∈ mi_good := mi_wd_in (w := w) h
theorem mi_lk7 {o i a b w : Nat} {v : Int} (h : mi_lkB (o, i, 7, a, b, v) w = true) : Cond.constantLong (mi_cname o) i (Int64.ofInt v) ∈ mi_good := mi_wd_in (w := w) h
theorem mi_lk8 {o i a b w : Nat} {v : Int} (h : mi_lkB (o, i, 8, a, b, v) w = true) : (mi_cname o, i, mi_txt.getD a "", a) ∈ mi_strs := by
  have h : decide (mi_strs[w]? = some (mi_cname o, i, mi_txt.getD a "", a)) = true := h
  exact List.mem_of_getElem? (of_decide_eq_true h)
theorem mi_lk9 {o i a b w : Nat} {v : Int} {r : mi_M} (hz : mi_heads[a]? = some r) (h : mi_lkB (o, i, 9, a, b, v) w = true) : Cond.methodLink (mi_cname o) i r.1 ∈ mi_good := by
  have h : (match mi_heads[a]? with | some r => mi_wd w (.methodLink (mi_cname o) i r.1) | none => false) = true := h
  rw [hz] at h
  exact mi_wd_in h
theorem mi_lk10 {o i a b w : Nat} {v : Int} {r : mi_M} (hz : mi_heads[a]? = some r) (h : mi_lkB (o, i, 10, a, b, v) w = true) : Cond.methodLinkNest (mi_cname o) i r.1 "ThirdAfter" ∈ mi_nest := by
  have h : (match mi_heads[a]? with | some r => mi_nestB w (.methodLinkNest (mi_cname o) i r.1 "ThirdAfter") | none => false) = true := h
  rw [hz] at h
  exact List.mem_of_getElem? (of_decide_eq_true h)
theorem mi_lk11 {o i a b w : Nat} {v : Int} (h : mi_lkB (o, i, 11, a, b, v) w = true) : Cond.methodLink (mi_cname o) i arraycopyName ∈ mi_good := mi_wd_in (w := w) h
theorem mi_lk12 {o i a b w : Nat} {v : Int} (h : mi_lkB (o, i, 12, a, b, v) w = true) : Cond.methodLink (mi_cname o) i objectInit ∈ mi_good := mi_wd_in (w := w) h
theorem mi_lk13 {o i a b w : Nat} {v : Int} {z : String × String} (hz : mi_of[b]? = some z) (h : mi_lkB (o, i, 13, a, b, v) w = true) : Cond.fieldLink (mi_cname o) i "java/lang/String" z.1 z.2 ∈ mi_good := by
  have h : (match mi_of[b]? with | some z => mi_wd w (.fieldLink (mi_cname o) i "java/lang/String" z.1 z.2) | none => false) = true := h
  rw [hz] at h
  exact mi_wd_in h
theorem mi_lk14 {o i a b w : Nat} {v : Int} (h : mi_lkB (o, i, 14, a, b, v) w = true) : Cond.methodLink (mi_cname o) i Lib.Math.max.name ∈ mi_good := mi_wd_in (w := w) h
theorem mi_lk15 {o i a b w : Nat} {v : Int} (h : mi_lkB (o, i, 15, a, b, v) w = true) : Cond.methodLink (mi_cname o) i Lib.Math.min.name ∈ mi_good := mi_wd_in (w := w) h
section MIH
variable {p : Program} {l : Launch} {e : Env} {R : Room} {s : State} {m : MethodId} {args : Array Value} {below : List Frame} {meth : Method} {c : Code} {Q : State → Prop}
variable {cc : ByteArray} {pc nL : Nat} {ls : mi_L} {st : List Value} {len : Nat} {N : mi_N} {base own : Nat} {ra : Nat → Nat} {cT : FieldType → ClassId} {D : va_G} {ini : Bool} {ax : mi_X} {cn cn1 lim : Nat × Nat} {h h1 : mi_H} {pc1 : Nat} {st1 : List Value}

theorem mi_q_getfield {i : Nat} (cx : mi_Cx N base ra cT D own cc nL p s m args c) (hd : decode cc pc = .ok (.getfield i, len)) (hlen : mi_len (.getfield i) len = true) (hok : mi_ok own ini (.getfield i) ax) (hh : mi_hGet N ax pc st cn h = some (pc1, st1, cn1, h1)) (kk : mi_Wq base ra cT D nL p l e R s m args below meth c Q pc1 ls st1 cn1 h1) : mi_Wq base ra cT D nL p l e R s m args below meth c Q pc ls st cn h := by
  cases (beq_iff_eq.mp hlen)
  obtain ⟨hx, hb, hml, hown, hts, hKn, hX, hbs⟩ := cx
  intro H locs ar hsz hP hKA hS har
  obtain ⟨⟨w, hw⟩, -⟩ := hok i rfl
  unfold mi_hGet at hh
  split at hh
  next a r =>
    split at hh
    next hlo =>
      split at hh
      next o ho =>
        split at hh
        next hc =>
          split at hh
          next v hv =>
            cases hh
            obtain ⟨hc1, hc2⟩ := Bool.and_eq_true_iff.mp hc
            have hc1 := Nat.eq_of_beq_eq_true hc1
            have hc2 := Nat.eq_of_beq_eq_true hc2
            rw [hc2] at hw
            obtain ⟨q, hq, hk, hw⟩ := mi_lk0 hw
            have hcl := mi_cl_ok _ _ hq
            rw [mi_ref_lo hlo]
            have hq' : vwCl[o.1]? = some (q.1, q.2.1, q.2.2) := by rw [hc1]; exact hq
            refine va_get (D := D) (ci := o.1) (C := q.1) (T := q.2.1) (N := q.2.2) (v := mi_v (mi_ad base ra) v) (ref := q.1) hx hb hts hcl.1 hown hKn.K0 hP a (mi_W_get ho) hq' ax.2.1 hk (hts _ hw) (fun z hz => by rw [hcl.2.2.2.2.2.2.2 _ hk] at hz; exact hz) ?_ hd (kk H locs ar hsz hP hKA hS har)
            show (mi_st (mi_ad base ra) o.2)[ax.2.1]? = _
            unfold mi_st
            rw [List.getElem?_map, hv]
            rfl
          next => cases hh
        next => cases hh
      next => cases hh
    next hhi =>
      split at hh
      next hc =>
        split at hh
        next v hv =>
          cases hh
          rw [Nat.eq_of_beq_eq_true hc] at hw
          obtain ⟨-, z2, hz2, hF⟩ := hX.2.2.1 _ _ _ hv
          rw [mi_ref_hi hhi]
          exact vk_getf (ref := "java/lang/String") hx hb hF hS hown (hts _ (mi_lk13 hz2 hw)) (fun _ z => z) hd (kk H locs ar hsz hP hKA hS har)
        next => cases hh
      next => cases hh
  next => cases hh
theorem mi_q_putfield {i : Nat} (cx : mi_Cx N base ra cT D own cc nL p s m args c) (hd : decode cc pc = .ok (.putfield i, len)) (hlen : mi_len (.putfield i) len = true) (hok : mi_ok own ini (.putfield i) ax) (hini : ini = true → meth.name = "<init>") (hh : mi_hPut ax pc st cn h = some (pc1, st1, cn1, h1)) (kk : mi_Wq base ra cT D nL p l e R s m args below meth c Q pc1 ls st1 cn1 h1) : mi_Wq base ra cT D nL p l e R s m args below meth c Q pc ls st cn h := by
  cases (beq_iff_eq.mp hlen)
  obtain ⟨hx, hb, hml, hown, hts, hKn, hX, hbs⟩ := cx
  intro H locs ar hsz hP hKA hS har
  obtain ⟨⟨w, hw⟩, hfin⟩ := hok i rfl
  unfold mi_hPut at hh
  split at hh
  next v a r =>
    split at hh
    next hlo =>
      split at hh
      next o ho =>
        split at hh
        next hc =>
          cases hh
          obtain ⟨hc, hc4⟩ := Bool.and_eq_true_iff.mp hc
          obtain ⟨hc, hc3⟩ := Bool.and_eq_true_iff.mp hc
          obtain ⟨hc1, hc2⟩ := Bool.and_eq_true_iff.mp hc
          have hc1 := Nat.eq_of_beq_eq_true hc1
          have hc2 := Nat.eq_of_beq_eq_true hc2
          rw [hc2] at hw
          obtain ⟨q, hq, hk, hw⟩ := mi_lk0 hw
          have hcl := mi_cl_ok _ _ hq
          have hq' : vwCl[o.1]? = some (q.1, q.2.1, q.2.2) := by rw [hc1]; exact hq
          obtain ⟨hn, hf⟩ := mi_okv_n (ad := mi_ad base ra) hc4
          have e0 : mi_st (mi_ad base ra) (v :: .ref a :: st1) = mi_v (mi_ad base ra) v :: .ref (base + a) :: mi_st (mi_ad base ra) st1 := by
            rw [← mi_ref_lo hlo]
            rfl
          rw [e0]
          have hset : (mi_W base ra cT h).set a (base + a, .inr (o.1, (mi_st (mi_ad base ra) o.2).set ax.2.1 (mi_v (mi_ad base ra) v))) = mi_W base ra cT (h.set a (.inl (o.1, o.2.set ax.2.1 v))) := by
            rw [← mi_W_set]
            congr 2
            show _ = Sum.inr (o.1, mi_st (mi_ad base ra) (o.2.set ax.2.1 v))
            unfold mi_st
            rw [List.map_set]
          have hl : ax.2.1 < (mi_st (mi_ad base ra) o.2).length := by
            unfold mi_st
            rw [List.length_map]
            exact mi_blt hc3
          have hgo : ∀ (H1 : Heap) (locs1 : List Loc), va_P D vwCl ((mi_W base ra cT h).set a (base + a, .inr (o.1, (mi_st (mi_ad base ra) o.2).set ax.2.1 (mi_v (mi_ad base ra) v)))) H1 → H1.size = H.size → va_S (fun q : Nat => base ≤ q) s.heap H1 locs1 → W p l e R s m args below meth c H1 locs1 cn.1 cn.2 Q (F0 m (pc + 3) ar (mi_st (mi_ad base ra) st1)) := by
            intro H1 locs1 hP1 hz1 hS1
            rw [hset] at hP1
            exact kk H1 locs1 ar (by rw [hz1, hsz, List.length_set]) hP1 (hKA.obj a _) hS1 har
          by_cases hfi : (q.2.1 ax.2.1).2.2.2 = true
          · obtain ⟨hi, ho2⟩ := hfin rfl q hq hfi
            refine mi_putF (D := D) (ci := o.1) (C := q.1) (T := q.2.1) (N := q.2.2) (ref := q.1) hx hb hts hcl.1 (mi_ft ax.1) hcl.2.2.1 hcl.2.1 hown hKn.K0 hP (mi_D base ra cT h) hS a (mi_W_get ho) hq' ax.2.1 hk (hts _ hw) (fun z hz => by rw [hcl.2.2.2.2.2.2.2 _ hk] at hz; exact hz) (Or.inr ⟨hfi, hini hi, by rw [hcl.2.2.2.2.2.2.2 _ hk, ho2]; exact (mi_cname_cl hq).symm⟩) (hcl.2.2.1 _ hk) hn hf hl hd hgo
          · refine mi_putF (D := D) (ci := o.1) (C := q.1) (T := q.2.1) (N := q.2.2) (ref := q.1) hx hb hts hcl.1 (mi_ft ax.1) hcl.2.2.1 hcl.2.1 hown hKn.K0 hP (mi_D base ra cT h) hS a (mi_W_get ho) hq' ax.2.1 hk (hts _ hw) (fun z hz => by rw [hcl.2.2.2.2.2.2.2 _ hk] at hz; exact hz) (Or.inl (Bool.eq_false_iff.mpr hfi)) (hcl.2.2.1 _ hk) hn hf hl hd hgo
        next => cases hh
      next => cases hh
    next => cases hh
  next => cases hh
theorem mi_q_getstatic {i : Nat} (cx : mi_Cx N base ra cT D own cc nL p s m args c) (hd : decode cc pc = .ok (.getstatic i, len)) (hlen : mi_len (.getstatic i) len = true) (hok : mi_ok own ini (.getstatic i) ax) (hh : mi_hStat N ax pc st cn h = some (pc1, st1, cn1, h1)) (kk : mi_Wq base ra cT D nL p l e R s m args below meth c Q pc1 ls st1 cn1 h1) : mi_Wq base ra cT D nL p l e R s m args below meth c Q pc ls st cn h := by
  cases (beq_iff_eq.mp hlen)
  obtain ⟨hx, hb, hml, hown, hts, hKn, hX, hbs⟩ := cx
  intro H locs ar hsz hP hKA hS har
  obtain ⟨⟨w, hw⟩, -⟩ := hok i rfl
  unfold mi_hStat at hh
  split at hh
  next hc =>
    split at hh
    next v hv =>
      cases hh
      obtain ⟨q, hq, hZ⟩ := hX.1 _ _ hv
      rcases Bool.or_eq_true_iff.mp hc with h1 | h1
      · rw [Nat.eq_of_beq_eq_true h1] at hw
        exact va_gets hx hb hZ hS hown (hts _ (mi_lk1 hq hw)) (fun _ z => z) hd (kk H locs ar hsz hP hKA hS har)
      · rw [Nat.eq_of_beq_eq_true h1] at hw
        have hn := hX.2.2.2.1 _ (mi_lk2 hq hw)
        exact va_getsN hx hb hZ hS hown (hn.use rfl) (fun _ z => z) hd (kk H locs ar hsz hP hKA hS har)
    next => cases hh
  next => cases hh
theorem mi_q_iaload (cx : mi_Cx N base ra cT D own cc nL p s m args c) (hd : decode cc pc = .ok (.iaload, len)) (hlen : mi_len (.iaload) len = true) (hok : mi_ok own ini (.iaload) ax) (hh : mi_hIald N pc st cn h = some (pc1, st1, cn1, h1)) (kk : mi_Wq base ra cT D nL p l e R s m args below meth c Q pc1 ls st1 cn1 h1) : mi_Wq base ra cT D nL p l e R s m args below meth c Q pc ls st cn h := by
  cases (beq_iff_eq.mp hlen)
  obtain ⟨hx, hb, hml, hown, hts, hKn, hX, hbs⟩ := cx
  intro H locs ar hsz hP hKA hS har
  unfold mi_hIald at hh
  split at hh
  next i a r =>
    split at hh
    next hlo =>
      split at hh
      next ll hl =>
        split at hh
        next => cases hh
        next hi =>
          cases hh
          have e0 : mi_st (mi_ad base ra) (.int i :: .ref a :: r) = .int i :: .ref (base + a) :: mi_st (mi_ad base ra) r := by
            rw [← mi_ref_lo hlo]
            rfl
          rw [e0]
          exact va_iald (f := fun j => ll.getD j 0) hx hb (hKA.K hKn hl) hP a 0 (mi_W_get hl) rfl (mi_off_in hi) hd (kk H locs ar hsz hP hKA hS har)
      next => cases hh
    next hhi =>
      split at hh
      next ll hl =>
        split at hh
        next => cases hh
        next hi =>
          cases hh
          have e0 : mi_st (mi_ad base ra) (.int i :: .ref a :: r) = .int i :: .ref (ra (a - mi_RO)) :: mi_st (mi_ad base ra) r := by
            rw [← mi_ref_hi hhi]
            rfl
          rw [e0]
          exact va_ti hx hb (hX.2.1 _ _ _ hl) hS (mi_off_in hi) rfl hd (kk H locs ar hsz hP hKA hS har)
      next => cases hh
  next => cases hh
theorem mi_q_baload (cx : mi_Cx N base ra cT D own cc nL p s m args c) (hd : decode cc pc = .ok (.baload, len)) (hlen : mi_len (.baload) len = true) (hok : mi_ok own ini (.baload) ax) (hh : mi_hBald N pc st cn h = some (pc1, st1, cn1, h1)) (kk : mi_Wq base ra cT D nL p l e R s m args below meth c Q pc1 ls st1 cn1 h1) : mi_Wq base ra cT D nL p l e R s m args below meth c Q pc ls st cn h := by
  cases (beq_iff_eq.mp hlen)
  obtain ⟨hx, hb, hml, hown, hts, hKn, hX, hbs⟩ := cx
  intro H locs ar hsz hP hKA hS har
  unfold mi_hBald at hh
  split at hh
  next i a r =>
    split at hh
    next => cases hh
    next hhi =>
      split at hh
      next ll hl =>
        split at hh
        next => cases hh
        next hi =>
          cases hh
          have e0 : mi_st (mi_ad base ra) (.int i :: .ref a :: r) = .int i :: .ref (ra (a - mi_RO)) :: mi_st (mi_ad base ra) r := by
            rw [← mi_ref_hi hhi]
            rfl
          rw [e0]
          exact va_tb hx hb (hX.2.1 _ _ _ hl) hS (mi_off_in hi) rfl hd (kk H locs ar hsz hP hKA hS har)
      next => cases hh
  next => cases hh
theorem mi_q_laload (cx : mi_Cx N base ra cT D own cc nL p s m args c) (hd : decode cc pc = .ok (.laload, len)) (hlen : mi_len (.laload) len = true) (hok : mi_ok own ini (.laload) ax) (hh : mi_hLald pc st cn h = some (pc1, st1, cn1, h1)) (kk : mi_Wq base ra cT D nL p l e R s m args below meth c Q pc1 ls st1 cn1 h1) : mi_Wq base ra cT D nL p l e R s m args below meth c Q pc ls st cn h := by
  cases (beq_iff_eq.mp hlen)
  obtain ⟨hx, hb, hml, hown, hts, hKn, hX, hbs⟩ := cx
  intro H locs ar hsz hP hKA hS har
  unfold mi_hLald at hh
  split at hh
  next i a r =>
    split at hh
    next hlo =>
      split at hh
      next ll hl =>
        split at hh
        next => cases hh
        next hi =>
          cases hh
          have e0 : mi_st (mi_ad base ra) (.int i :: .ref a :: r) = .int i :: .ref (base + a) :: mi_st (mi_ad base ra) r := by
            rw [← mi_ref_lo hlo]
            rfl
          rw [e0]
          exact va_lald (f := fun j => ll.getD j 0) hx hb (hKA.K hKn hl) hP a 0 (mi_W_get hl) rfl (mi_off_in hi) hd (kk H locs ar hsz hP hKA hS har)
      next => cases hh
    next => cases hh
  next => cases hh
theorem mi_q_aaload (cx : mi_Cx N base ra cT D own cc nL p s m args c) (hd : decode cc pc = .ok (.aaload, len)) (hlen : mi_len (.aaload) len = true) (hok : mi_ok own ini (.aaload) ax) (hh : mi_hAald pc st cn h = some (pc1, st1, cn1, h1)) (kk : mi_Wq base ra cT D nL p l e R s m args below meth c Q pc1 ls st1 cn1 h1) : mi_Wq base ra cT D nL p l e R s m args below meth c Q pc ls st cn h := by
  cases (beq_iff_eq.mp hlen)
  obtain ⟨hx, hb, hml, hown, hts, hKn, hX, hbs⟩ := cx
  intro H locs ar hsz hP hKA hS har
  unfold mi_hAald at hh
  split at hh
  next i a r =>
    split at hh
    next hlo =>
      split at hh
      next ty ll hl =>
        split at hh
        next => cases hh
        next hi =>
          split at hh
          next k hk =>
            cases hh
            obtain ⟨hi, hty⟩ := Bool.or_eq_false_iff.mp hi
            have e0 : mi_st (mi_ad base ra) (.int i :: .ref a :: r) = .int i :: .ref (base + a) :: mi_st (mi_ad base ra) r := by
              rw [← mi_ref_lo hlo]
              rfl
            rw [e0]
            have hcell : H[base + a]? = some (vp_cell (cT ty) (mi_rA (mi_ad base ra) (.inr (.inr ll)))) := hP a _ (mi_W_get hl)
            refine W.aald (ty := ty) (v := .ref (mi_ad base ra k)) hx hb hcell ((hKA a ty _ hl).1 _ _) (by simpa using hty) (fun z => by cases z) ?_ ?_ rfl rfl hd (kk H locs ar hsz hP hKA hS har)
            · show ¬ (i < 0 ∨ (arrV _ _ _).slots.size ≤ i.toNatClampNeg)
              rw [arrV_size]
              exact mi_off_in hi
            · refine (arrV_read _ _ (mi_off_lt hi)).trans ?_
              show some (va_rf ((ll.getD i.toNatClampNeg none).map (mi_ad base ra))) = _
              rw [hk]
              rfl
          next => cases hh
      next => cases hh
    next => cases hh
  next => cases hh
theorem mi_q_iastore (cx : mi_Cx N base ra cT D own cc nL p s m args c) (hd : decode cc pc = .ok (.iastore, len)) (hlen : mi_len (.iastore) len = true) (hok : mi_ok own ini (.iastore) ax) (hh : mi_hIast pc st cn h = some (pc1, st1, cn1, h1)) (kk : mi_Wq base ra cT D nL p l e R s m args below meth c Q pc1 ls st1 cn1 h1) : mi_Wq base ra cT D nL p l e R s m args below meth c Q pc ls st cn h := by
  cases (beq_iff_eq.mp hlen)
  obtain ⟨hx, hb, hml, hown, hts, hKn, hX, hbs⟩ := cx
  intro H locs ar hsz hP hKA hS har
  unfold mi_hIast at hh
  split at hh
  next x i a r =>
    split at hh
    next hlo =>
      split at hh
      next ll hl =>
        split at hh
        next => cases hh
        next hi =>
          cases hh
          have e0 : mi_st (mi_ad base ra) (.int x :: .int i :: .ref a :: st1) = .int x :: .int i :: .ref (base + a) :: mi_st (mi_ad base ra) st1 := by
            rw [← mi_ref_lo hlo]
            rfl
          rw [e0]
          refine mi_iast (f := fun j => ll.getD j 0) hx hb (hKA.K hKn hl) hP (mi_D base ra cT h) hS a 0 (mi_W_get hl) rfl (mi_off_in hi) hd (fun H1 locs1 hP1 hz1 hS1 => ?_)
          refine kk H1 locs1 ar (by rw [hz1, hsz, List.length_set]) ?_ (hKA.arr hl _) hS1 har
          rw [← mi_W_set]
          have e1 : (fun j => (ll.set i.toNatClampNeg x).getD j 0) = upd (fun j => ll.getD j 0) i.toNatClampNeg x := mi_getD_set ll 0 _ x (mi_off_lt hi)
          show va_P D vwCl ((mi_W base ra cT h).set a (base + a, .inl (cT .int, (ll.set i.toNatClampNeg x).length, .inl (fun j => (ll.set i.toNatClampNeg x).getD j 0)))) H1
          rw [e1, List.length_set]
          exact hP1
      next => cases hh
    next => cases hh
  next => cases hh
theorem mi_q_lastore (cx : mi_Cx N base ra cT D own cc nL p s m args c) (hd : decode cc pc = .ok (.lastore, len)) (hlen : mi_len (.lastore) len = true) (hok : mi_ok own ini (.lastore) ax) (hh : mi_hLast pc st cn h = some (pc1, st1, cn1, h1)) (kk : mi_Wq base ra cT D nL p l e R s m args below meth c Q pc1 ls st1 cn1 h1) : mi_Wq base ra cT D nL p l e R s m args below meth c Q pc ls st cn h := by
  cases (beq_iff_eq.mp hlen)
  obtain ⟨hx, hb, hml, hown, hts, hKn, hX, hbs⟩ := cx
  intro H locs ar hsz hP hKA hS har
  unfold mi_hLast at hh
  split at hh
  next x i a r =>
    split at hh
    next hlo =>
      split at hh
      next ll hl =>
        split at hh
        next => cases hh
        next hi =>
          cases hh
          have e0 : mi_st (mi_ad base ra) (.long x :: .int i :: .ref a :: st1) = .long x :: .int i :: .ref (base + a) :: mi_st (mi_ad base ra) st1 := by
            rw [← mi_ref_lo hlo]
            rfl
          rw [e0]
          refine mi_last (f := fun j => ll.getD j 0) hx hb (hKA.K hKn hl) hP (mi_D base ra cT h) hS a 0 (mi_W_get hl) rfl (mi_off_in hi) hd (fun H1 locs1 hP1 hz1 hS1 => ?_)
          refine kk H1 locs1 ar (by rw [hz1, hsz, List.length_set]) ?_ (hKA.arr hl _) hS1 har
          rw [← mi_W_set]
          have e1 : (fun j => (ll.set i.toNatClampNeg x).getD j 0) = vp_updL (fun j => ll.getD j 0) i.toNatClampNeg x := mi_getD_set ll 0 _ x (mi_off_lt hi)
          show va_P D vwCl ((mi_W base ra cT h).set a (base + a, .inl (cT .long, (ll.set i.toNatClampNeg x).length, .inr (.inl (fun j => (ll.set i.toNatClampNeg x).getD j 0))))) H1
          rw [e1, List.length_set]
          exact hP1
      next => cases hh
    next => cases hh
  next => cases hh
theorem mi_q_arraylength (cx : mi_Cx N base ra cT D own cc nL p s m args c) (hd : decode cc pc = .ok (.arraylength, len)) (hlen : mi_len (.arraylength) len = true) (hok : mi_ok own ini (.arraylength) ax) (hh : mi_hAlen N pc st cn h = some (pc1, st1, cn1, h1)) (kk : mi_Wq base ra cT D nL p l e R s m args below meth c Q pc1 ls st1 cn1 h1) : mi_Wq base ra cT D nL p l e R s m args below meth c Q pc ls st cn h := by
  cases (beq_iff_eq.mp hlen)
  obtain ⟨hx, hb, hml, hown, hts, hKn, hX, hbs⟩ := cx
  intro H locs ar hsz hP hKA hS har
  unfold mi_hAlen at hh
  split at hh
  next a r =>
    split at hh
    next hlo =>
      split at hh
      next x hx0 =>
        cases hh
        rw [mi_ref_lo hlo]
        refine va_alen hx hb (hKA.K (ty := x.1) (a := x.2) hKn hx0) hP a 0 (mi_W_get hx0) rfl ?_ hd (kk H locs ar hsz hP hKA hS har)
        rcases x with ⟨ty, z⟩
        rcases z with z | z | z <;> rfl
      next => cases hh
    next hhi =>
      split at hh
      next x hx0 =>
        cases hh
        rw [mi_ref_hi hhi]
        exact va_tlen hx hb (hX.2.1 _ x.1 x.2 hx0) hS rfl hd (kk H locs ar hsz hP hKA hS har)
      next => cases hh
  next => cases hh
theorem mi_q_ldc {i : Nat} (cx : mi_Cx N base ra cT D own cc nL p s m args c) (hd : decode cc pc = .ok (.ldc i, len)) (hlen : mi_len (.ldc i) len = true) (hok : mi_ok own ini (.ldc i) ax) (hh : mi_hLdc ax pc st cn h = some (pc1, st1, cn1, h1)) (kk : mi_Wq base ra cT D nL p l e R s m args below meth c Q pc1 ls st1 cn1 h1) : mi_Wq base ra cT D nL p l e R s m args below meth c Q pc ls st cn h := by
  cases (beq_iff_eq.mp hlen)
  obtain ⟨hx, hb, hml, hown, hts, hKn, hX, hbs⟩ := cx
  intro H locs ar hsz hP hKA hS har
  obtain ⟨⟨w, hw⟩, -⟩ := hok i rfl
  unfold mi_hLdc at hh
  split at hh
  next e0 =>
    cases hh
    rw [e0] at hw
    exact lv_ldc hx hb hown (hts _ (mi_lk6 hw)) hd (kk H locs ar hsz hP hKA hS har)
  next e0 =>
    cases hh
    rw [e0] at hw
    have hq := hX.2.2.2.2.1 _ (mi_lk8 hw)
    refine va_ldcS hx hb hown hq hd ?_
    have hk := kk H locs ar hsz hP hKA hS har
    have hbl : Nat.blt (mi_RO + (10 + ax.1)) mi_RO = false := by
      cases hz : Nat.blt (mi_RO + (10 + ax.1)) mi_RO with
      | false => rfl
      | true =>
        have := mi_blt hz
        omega
    rw [mi_ref_hi hbl] at hk
    rw [show mi_RO + (10 + ax.1) - mi_RO = 10 + ax.1 by omega] at hk
    exact hk
  next => cases hh
theorem mi_q_ldc_w {i : Nat} (cx : mi_Cx N base ra cT D own cc nL p s m args c) (hd : decode cc pc = .ok (.ldc_w i, len)) (hlen : mi_len (.ldc_w i) len = true) (hok : mi_ok own ini (.ldc_w i) ax) (hh : mi_hLdw ax pc st cn h = some (pc1, st1, cn1, h1)) (kk : mi_Wq base ra cT D nL p l e R s m args below meth c Q pc1 ls st1 cn1 h1) : mi_Wq base ra cT D nL p l e R s m args below meth c Q pc ls st cn h := by
  cases (beq_iff_eq.mp hlen)
  obtain ⟨hx, hb, hml, hown, hts, hKn, hX, hbs⟩ := cx
  intro H locs ar hsz hP hKA hS har
  obtain ⟨⟨w, hw⟩, -⟩ := hok i rfl
  unfold mi_hLdw at hh
  split at hh
  next e0 =>
    cases hh
    rw [e0] at hw
    exact lv_ldcw hx hb hown (hts _ (mi_lk6 hw)) hd (kk H locs ar hsz hP hKA hS har)
  next => cases hh
theorem mi_q_ldc2_w {i : Nat} (cx : mi_Cx N base ra cT D own cc nL p s m args c) (hd : decode cc pc = .ok (.ldc2_w i, len)) (hlen : mi_len (.ldc2_w i) len = true) (hok : mi_ok own ini (.ldc2_w i) ax) (hh : mi_hLd2 ax pc st cn h = some (pc1, st1, cn1, h1)) (kk : mi_Wq base ra cT D nL p l e R s m args below meth c Q pc1 ls st1 cn1 h1) : mi_Wq base ra cT D nL p l e R s m args below meth c Q pc ls st cn h := by
  cases (beq_iff_eq.mp hlen)
  obtain ⟨hx, hb, hml, hown, hts, hKn, hX, hbs⟩ := cx
  intro H locs ar hsz hP hKA hS har
  obtain ⟨⟨w, hw⟩, -⟩ := hok i rfl
  unfold mi_hLd2 at hh
  split at hh
  next e0 =>
    cases hh
    rw [e0] at hw
    exact lv_ldc2 hx hb hown (hts _ (mi_lk7 hw)) hd (kk H locs ar hsz hP hKA hS har)
  next => cases hh
end MIH
