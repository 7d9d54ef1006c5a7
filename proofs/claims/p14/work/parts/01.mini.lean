section
/-! THE SMALL MACHINE: a frame over places instead of addresses. Its pure instructions. -/
abbrev mi_A : Type := List Int32 ⊕ (List Int64 ⊕ List (Option Nat))
abbrev mi_E : Type := (Nat × List Value) ⊕ (FieldType × mi_A)
abbrev mi_H : Type := List mi_E
abbrev mi_L : Type := List (Nat × Value)
/-- what stands beside an instruction: two numbers, the kind of its link, a constant, the number of the link -/
abbrev mi_X : Type := Nat × Nat × Nat × Int × Nat
abbrev mi_I : Type := Instr × Nat × mi_X
noncomputable def mi_lk : mi_L → Nat → Option Value
  | [], _ => none
  | q :: r, i => match Nat.beq q.1 i with
    | true => some q.2
    | false => mi_lk r i
noncomputable def mi_s1 (ls : mi_L) (i : Nat) (v : Value) : mi_L := (i, v) :: ls.filter (fun q => !(q.1 == i) && !(q.1 + 1 == i && q.2.category == 2))
noncomputable def mi_s2 (ls : mi_L) (i : Nat) (v : Value) : mi_L := (i, v) :: ls.filter (fun q => !(q.1 == i) && (!(q.1 == i + 1) && !(q.1 + 1 == i && q.2.category == 2)))
noncomputable def mi_to (pc : Nat) (off : Int) : Option Nat := match (pc : Int) + off with
  | .ofNat t => some t
  | .negSucc _ => none
noncomputable def mi_br (c : Bool) (pc : Nat) (off : Int) (ls : mi_L) (st : List Value) : Option (Nat × mi_L × List Value) := match mi_to pc off with
  | some t => some (bif c then t else pc + 3, ls, st)
  | none => none

noncomputable def mi_pure (ins : Instr) (pc nL : Nat) (ls : mi_L) (st : List Value) : Option (Nat × mi_L × List Value) := match ins with
  | .iconst n => some (pc + 1, ls, .int (Int32.ofInt n) :: st)
  | .bipush n => some (pc + 2, ls, .int (Int8.ofInt n).toInt32 :: st)
  | .sipush n => some (pc + 3, ls, .int (Int16.ofInt n).toInt32 :: st)
  | .lconst n => some (pc + 1, ls, .long (Int64.ofNat (n : Nat)) :: st)
  | .iload_n k => (match mi_lk ls (k : Nat) with | some (.int x) => some (pc + 1, ls, .int x :: st) | _ => none)
  | .iload i => (match mi_lk ls i with | some (.int x) => some (pc + 2, ls, .int x :: st) | _ => none)
  | .lload_n k => (match mi_lk ls (k : Nat) with | some (.long x) => some (pc + 1, ls, .long x :: st) | _ => none)
  | .lload i => (match mi_lk ls i with | some (.long x) => some (pc + 2, ls, .long x :: st) | _ => none)
  | .aload_n k => (match mi_lk ls (k : Nat) with | some (.ref x) => some (pc + 1, ls, .ref x :: st) | _ => none)
  | .aload i => (match mi_lk ls i with | some (.ref x) => some (pc + 2, ls, .ref x :: st) | _ => none)
  | .istore_n k => (match st with | .int x :: r => (match Nat.blt ((k : Nat)) nL with | true => some (pc + 1, mi_s1 ls (k : Nat) (.int x), r) | false => none) | _ => none)
  | .istore i => (match st with | .int x :: r => (match Nat.blt (i) nL with | true => some (pc + 2, mi_s1 ls i (.int x), r) | false => none) | _ => none)
  | .lstore_n k => (match st with | .long x :: r => (match Nat.blt ((k : Nat) + 1) nL with | true => some (pc + 1, mi_s2 ls (k : Nat) (.long x), r) | false => none) | _ => none)
  | .lstore i => (match st with | .long x :: r => (match Nat.blt (i + 1) nL with | true => some (pc + 2, mi_s2 ls i (.long x), r) | false => none) | _ => none)
  | .astore_n k => (match st with | .ref x :: r => (match Nat.blt ((k : Nat)) nL with | true => some (pc + 1, mi_s1 ls (k : Nat) (.ref x), r) | false => none) | _ => none)
  | .astore i => (match st with | .ref x :: r => (match Nat.blt (i) nL with | true => some (pc + 2, mi_s1 ls i (.ref x), r) | false => none) | _ => none)
  | .iinc i n => (match mi_lk ls i with | some (.int x) => (match Nat.blt i nL with | true => some (pc + 3, mi_s1 ls i (.int (x + Int32.ofInt n)), st) | false => none) | _ => none)
  | .iadd => (match st with | .int y :: .int x :: r => some (pc + 1, ls, .int (x + y) :: r) | _ => none)
  | .isub => (match st with | .int y :: .int x :: r => some (pc + 1, ls, .int (x - y) :: r) | _ => none)
  | .imul => (match st with | .int y :: .int x :: r => some (pc + 1, ls, .int (x * y) :: r) | _ => none)
  | .iand => (match st with | .int y :: .int x :: r => some (pc + 1, ls, .int (x &&& y) :: r) | _ => none)
  | .ior => (match st with | .int y :: .int x :: r => some (pc + 1, ls, .int (x ||| y) :: r) | _ => none)
  | .ixor => (match st with | .int y :: .int x :: r => some (pc + 1, ls, .int (x ^^^ y) :: r) | _ => none)
  | .ishl => (match st with | .int y :: .int x :: r => some (pc + 1, ls, .int (x <<< (y &&& 31)) :: r) | _ => none)
  | .ishr => (match st with | .int y :: .int x :: r => some (pc + 1, ls, .int (x >>> (y &&& 31)) :: r) | _ => none)
  | .iushr => (match st with | .int y :: .int x :: r => some (pc + 1, ls, .int ((x.toUInt32 >>> (y.toUInt32 &&& Int32.toUInt32 31)).toInt32) :: r) | _ => none)
  | .idiv => (match st with | .int y :: .int x :: r => (match y == 0 with | true => none | false => some (pc + 1, ls, .int (x / y) :: r)) | _ => none)
  | .irem => (match st with | .int y :: .int x :: r => (match y == 0 with | true => none | false => some (pc + 1, ls, .int (x - x / y * y) :: r)) | _ => none)
  | .ladd => (match st with | .long y :: .long x :: r => some (pc + 1, ls, .long (x + y) :: r) | _ => none)
  | .lmul => (match st with | .long y :: .long x :: r => some (pc + 1, ls, .long (x * y) :: r) | _ => none)
  | .land => (match st with | .long y :: .long x :: r => some (pc + 1, ls, .long (x &&& y) :: r) | _ => none)
  | .lor => (match st with | .long y :: .long x :: r => some (pc + 1, ls, .long (x ||| y) :: r) | _ => none)
  | .lshl => (match st with | .int y :: .long x :: r => some (pc + 1, ls, .long (x <<< (y.toInt64 &&& 63)) :: r) | _ => none)
  | .lcmp => (match st with | .long y :: .long x :: r => some (pc + 1, ls, .int (lg_cmp x y) :: r) | _ => none)
  | .ineg => (match st with | .int x :: r => some (pc + 1, ls, .int (-x) :: r) | _ => none)
  | .i2l => (match st with | .int x :: r => some (pc + 1, ls, .long (x.toInt64) :: r) | _ => none)
  | .l2i => (match st with | .long x :: r => some (pc + 1, ls, .int (x.toInt32) :: r) | _ => none)
  | .i2b => (match st with | .int x :: r => some (pc + 1, ls, .int (x.toInt8.toInt32) :: r) | _ => none)
  | .i2s => (match st with | .int x :: r => some (pc + 1, ls, .int (x.toInt16.toInt32) :: r) | _ => none)
  | .i2c => (match st with | .int x :: r => some (pc + 1, ls, .int ((x.toUInt32 % 65536).toInt32) :: r) | _ => none)
  | .dup => (match st with | v :: r => (match v.category == 1 with | true => some (pc + 1, ls, v :: v :: r) | false => none) | _ => none)
  | .pop => (match st with | v :: r => (match v.category == 1 with | true => some (pc + 1, ls, r) | false => none) | _ => none)
  | .pop2 => (match st with | v :: r => (match v.category == 2 with | true => some (pc + 1, ls, r) | false => none) | _ => none)
  | .dup_x1 => (match st with | v :: u :: r => (match v.category == 1 && u.category == 1 with | true => some (pc + 1, ls, v :: u :: v :: r) | false => none) | _ => none)
  | .dup2 => (match st with | v :: u :: r => (match v.category == 1 && u.category == 1 with | true => some (pc + 1, ls, v :: u :: v :: u :: r) | false => none) | _ => none)
  | .ifCond .eq off => (match st with | .int x :: r => mi_br (x == 0) pc off ls r | _ => none)
  | .if_icmp .eq off => (match st with | .int y :: .int x :: r => mi_br (x == y) pc off ls r | _ => none)
  | .ifCond .ne off => (match st with | .int x :: r => mi_br (x != 0) pc off ls r | _ => none)
  | .if_icmp .ne off => (match st with | .int y :: .int x :: r => mi_br (x != y) pc off ls r | _ => none)
  | .ifCond .lt off => (match st with | .int x :: r => mi_br (decide (x < 0)) pc off ls r | _ => none)
  | .if_icmp .lt off => (match st with | .int y :: .int x :: r => mi_br (decide (x < y)) pc off ls r | _ => none)
  | .ifCond .ge off => (match st with | .int x :: r => mi_br (decide (0 ≤ x)) pc off ls r | _ => none)
  | .if_icmp .ge off => (match st with | .int y :: .int x :: r => mi_br (decide (y ≤ x)) pc off ls r | _ => none)
  | .ifCond .gt off => (match st with | .int x :: r => mi_br (decide (0 < x)) pc off ls r | _ => none)
  | .if_icmp .gt off => (match st with | .int y :: .int x :: r => mi_br (decide (y < x)) pc off ls r | _ => none)
  | .ifCond .le off => (match st with | .int x :: r => mi_br (decide (x ≤ 0)) pc off ls r | _ => none)
  | .if_icmp .le off => (match st with | .int y :: .int x :: r => mi_br (decide (x ≤ y)) pc off ls r | _ => none)
  | .goto off => (match mi_to pc off with | some t => some (t, ls, st) | none => none)
  | .tableswitch d lo hi offs => (match st with | .int x :: r => (match decide (x.toInt < lo ∨ hi < x.toInt) with | true => (match mi_to pc d with | some t => some (t, ls, r) | none => none) | false => (match offs[(x.toInt - lo).toNat]? with | some off => (match mi_to pc off with | some t => some (t, ls, r) | none => none) | none => none)) | _ => none)
  | .lookupswitch d ps => (match st with | .int x :: r => (match mi_to pc (Op.lookupswitch.offset ps.toList d x.toInt) with | some t => some (t, ls, r) | none => none) | _ => none)
  | _ => none
/-- the instruction has the length that it is decoded with; a lookupswitch is sorted -/
noncomputable def mi_len (ins : Instr) (n : Nat) : Bool := match ins with
  | .tableswitch .. => true
  | .lookupswitch _ ps => (ps.toList.zip (ps.toList.drop 1)).all (fun (a, next) => a.1 < next.1)
  | .bipush .. | .iload .. | .lload .. | .aload .. | .istore .. | .lstore .. | .astore .. | .ldc .. | .newarray .. => n == 2
  | .sipush .. | .iinc .. | .ifCond .. | .if_icmp .. | .goto .. | .getfield .. | .putfield .. | .getstatic .. | .new .. | .anewarray .. | .ldc_w .. | .ldc2_w .. | .invokestatic .. | .invokevirtual .. | .invokespecial .. => n == 3
  | .multianewarray .. => n == 4
  | _ => n == 1
noncomputable def mi_v (ad : Nat → Nat) : Value → Value
  | .ref k => .ref (ad k)
  | v => v
noncomputable def mi_st (ad : Nat → Nat) (st : List Value) : List Value := st.map (mi_v ad)
noncomputable def mi_ls (ad : Nat → Nat) (ls : mi_L) : mi_L := ls.map (fun q => (q.1, mi_v ad q.2))
theorem mi_v_cat (ad : Nat → Nat) (v : Value) : (mi_v ad v).category = v.category := by cases v <;> rfl
theorem mi_lk_in : ∀ (ls : mi_L) (i : Nat) (v : Value), mi_lk ls i = some v → (i, v) ∈ ls
  | [], _, _, h => by simp [mi_lk] at h
  | (j, u) :: r, i, v, h => by
    unfold mi_lk at h
    split at h
    next hj =>
      have e : j = i := Nat.eq_of_beq_eq_true hj
      cases h
      rw [e]
      exact List.mem_cons_self
    next => exact List.mem_cons_of_mem _ (mi_lk_in r i v h)
theorem mi_lk_ok {ad : Nat → Nat} {ar : Array Slot} {nL : Nat} {ls : mi_L} {i : Nat} {v : Value} (har : lv_has ar nL (mi_ls ad ls)) (h : mi_lk ls i = some v) : ar[i]? = some (.val (mi_v ad v)) :=
  har.2.2 (i, mi_v ad v) (List.mem_map.mpr ⟨(i, v), mi_lk_in _ _ _ h, rfl⟩)
theorem mi_lk_at {ad : Nat → Nat} {ls : mi_L} {i : Nat} {v : Value} (h : mi_lk ls i = some v) : ∃ k : Nat, (mi_ls ad ls)[k]? = some (i, mi_v ad v) :=
  List.getElem?_of_mem (List.mem_map.mpr ⟨(i, v), mi_lk_in _ _ _ h, rfl⟩)
theorem mi_fil (ad : Nat → Nat) (ls : mi_L) (f g : Nat × Value → Bool) (hfg : ∀ q : Nat × Value, g (q.1, mi_v ad q.2) = f q) : (mi_ls ad ls).filter g = mi_ls ad (ls.filter f) := by
  unfold mi_ls
  rw [List.filter_map]
  congr 1
  apply List.filter_congr
  intro q _
  exact hfg q
theorem mi_s1_ok (ad : Nat → Nat) (ls : mi_L) (i : Nat) (v : Value) : (i, mi_v ad v) :: (mi_ls ad ls).filter (fun q => !(q.1 == i) && !(q.1 + 1 == i && q.2.category == 2)) = mi_ls ad (mi_s1 ls i v) := by
  rw [mi_fil ad ls (fun q => !(q.1 == i) && !(q.1 + 1 == i && q.2.category == 2)) _ (fun q => by simp only [mi_v_cat])]
  rfl
theorem mi_s2_ok (ad : Nat → Nat) (ls : mi_L) (i : Nat) (v : Value) : (i, mi_v ad v) :: (mi_ls ad ls).filter (fun q => !(q.1 == i) && (!(q.1 == i + 1) && !(q.1 + 1 == i && q.2.category == 2))) = mi_ls ad (mi_s2 ls i v) := by
  rw [mi_fil ad ls (fun q => !(q.1 == i) && (!(q.1 == i + 1) && !(q.1 + 1 == i && q.2.category == 2))) _ (fun q => by simp only [mi_v_cat])]
  rfl
theorem mi_to_ok {pc : Nat} {off : Int} {t : Nat} (h : mi_to pc off = some t) : (pc : Int) + off = (t : Int) := by
  unfold mi_to at h
  split at h
  next e => cases h; exact e
  next => cases h
theorem mi_blt {a b : Nat} (h : Nat.blt a b = true) : a < b := Nat.le_of_ble_eq_true h
section MI
variable {p : Program} {l : Launch} {e : Env} {R : Room} {s : State} {m : MethodId} {args : Array Value} {below : List Frame} {meth : Method} {c : Code} {H : Heap} {locs : List Loc} {cells slots : Nat} {Q : State → Prop}
variable {cc : ByteArray} {pc nL : Nat} {ls : mi_L} {st : List Value} {ad : Nat → Nat} {ar : Array Slot} {len : Nat}
theorem mi_br_ok {cb : Bool} {off : Int} {r : List Value} {pc' : Nat} {ls' : mi_L} {st' : List Value} (h : mi_br cb pc off ls r = some (pc', ls', st')) : ∃ t : Nat, (pc : Int) + off = (t : Int) ∧ ls' = ls ∧ st' = r ∧ (cb = true → pc' = t) ∧ (cb = false → pc' = pc + 3) := by
  unfold mi_br at h
  split at h
  next t ht =>
    cases h
    exact ⟨t, mi_to_ok ht, rfl, rfl, fun z => by rw [z]; rfl, fun z => by rw [z]; rfl⟩
  next => cases h

theorem mi_p_iconst (hexec : p.tables.exec = Jvm.exec) (hb : c.code = cc) {n : Int} (hd : decode cc pc = .ok (.iconst n, len)) (hlen : mi_len (.iconst n) len = true) {pc1 : Nat} {ls1 : mi_L} {st1 : List Value} (h : mi_pure (.iconst n) pc nL ls st = some (pc1, ls1, st1)) (har : lv_has ar nL (mi_ls ad ls)) (kk : ∀ ar1 : Array Slot, lv_has ar1 nL (mi_ls ad ls1) → W p l e R s m args below meth c H locs cells slots Q (F0 m pc1 ar1 (mi_st ad st1))) : W p l e R s m args below meth c H locs cells slots Q (F0 m pc ar (mi_st ad st)) := by
  cases (beq_iff_eq.mp hlen)
  cases h
  exact lv_iconst hexec hb hd rfl (kk ar har)
theorem mi_p_bipush (hexec : p.tables.exec = Jvm.exec) (hb : c.code = cc) {n : Int} (hd : decode cc pc = .ok (.bipush n, len)) (hlen : mi_len (.bipush n) len = true) {pc1 : Nat} {ls1 : mi_L} {st1 : List Value} (h : mi_pure (.bipush n) pc nL ls st = some (pc1, ls1, st1)) (har : lv_has ar nL (mi_ls ad ls)) (kk : ∀ ar1 : Array Slot, lv_has ar1 nL (mi_ls ad ls1) → W p l e R s m args below meth c H locs cells slots Q (F0 m pc1 ar1 (mi_st ad st1))) : W p l e R s m args below meth c H locs cells slots Q (F0 m pc ar (mi_st ad st)) := by
  cases (beq_iff_eq.mp hlen)
  cases h
  exact lv_bipush hexec hb hd rfl (kk ar har)
theorem mi_p_sipush (hexec : p.tables.exec = Jvm.exec) (hb : c.code = cc) {n : Int} (hd : decode cc pc = .ok (.sipush n, len)) (hlen : mi_len (.sipush n) len = true) {pc1 : Nat} {ls1 : mi_L} {st1 : List Value} (h : mi_pure (.sipush n) pc nL ls st = some (pc1, ls1, st1)) (har : lv_has ar nL (mi_ls ad ls)) (kk : ∀ ar1 : Array Slot, lv_has ar1 nL (mi_ls ad ls1) → W p l e R s m args below meth c H locs cells slots Q (F0 m pc1 ar1 (mi_st ad st1))) : W p l e R s m args below meth c H locs cells slots Q (F0 m pc ar (mi_st ad st)) := by
  cases (beq_iff_eq.mp hlen)
  cases h
  exact lv_sipush hexec hb hd rfl (kk ar har)
theorem mi_p_lconst (hexec : p.tables.exec = Jvm.exec) (hb : c.code = cc) {n : Fin 2} (hd : decode cc pc = .ok (.lconst n, len)) (hlen : mi_len (.lconst n) len = true) {pc1 : Nat} {ls1 : mi_L} {st1 : List Value} (h : mi_pure (.lconst n) pc nL ls st = some (pc1, ls1, st1)) (har : lv_has ar nL (mi_ls ad ls)) (kk : ∀ ar1 : Array Slot, lv_has ar1 nL (mi_ls ad ls1) → W p l e R s m args below meth c H locs cells slots Q (F0 m pc1 ar1 (mi_st ad st1))) : W p l e R s m args below meth c H locs cells slots Q (F0 m pc ar (mi_st ad st)) := by
  cases (beq_iff_eq.mp hlen)
  cases h
  exact lv_lconst hexec hb hd rfl (kk ar har)
theorem mi_p_iload_n (hexec : p.tables.exec = Jvm.exec) (hb : c.code = cc) {k : Fin 4} (hd : decode cc pc = .ok (.iload_n k, len)) (hlen : mi_len (.iload_n k) len = true) {pc1 : Nat} {ls1 : mi_L} {st1 : List Value} (h : mi_pure (.iload_n k) pc nL ls st = some (pc1, ls1, st1)) (har : lv_has ar nL (mi_ls ad ls)) (kk : ∀ ar1 : Array Slot, lv_has ar1 nL (mi_ls ad ls1) → W p l e R s m args below meth c H locs cells slots Q (F0 m pc1 ar1 (mi_st ad st1))) : W p l e R s m args below meth c H locs cells slots Q (F0 m pc ar (mi_st ad st)) := by
  cases (beq_iff_eq.mp hlen)
  simp only [mi_pure] at h
  split at h
  next x hx =>
    cases h
    exact lv_iload_n hexec hb hd rfl (mi_lk_ok har hx) (kk ar har)
  next => cases h
theorem mi_p_iload (hexec : p.tables.exec = Jvm.exec) (hb : c.code = cc) {i : Nat} (hd : decode cc pc = .ok (.iload i, len)) (hlen : mi_len (.iload i) len = true) {pc1 : Nat} {ls1 : mi_L} {st1 : List Value} (h : mi_pure (.iload i) pc nL ls st = some (pc1, ls1, st1)) (har : lv_has ar nL (mi_ls ad ls)) (kk : ∀ ar1 : Array Slot, lv_has ar1 nL (mi_ls ad ls1) → W p l e R s m args below meth c H locs cells slots Q (F0 m pc1 ar1 (mi_st ad st1))) : W p l e R s m args below meth c H locs cells slots Q (F0 m pc ar (mi_st ad st)) := by
  cases (beq_iff_eq.mp hlen)
  simp only [mi_pure] at h
  split at h
  next x hx =>
    cases h
    exact lv_iload hexec hb hd (mi_lk_ok har hx) (kk ar har)
  next => cases h
theorem mi_p_lload_n (hexec : p.tables.exec = Jvm.exec) (hb : c.code = cc) {k : Fin 4} (hd : decode cc pc = .ok (.lload_n k, len)) (hlen : mi_len (.lload_n k) len = true) {pc1 : Nat} {ls1 : mi_L} {st1 : List Value} (h : mi_pure (.lload_n k) pc nL ls st = some (pc1, ls1, st1)) (har : lv_has ar nL (mi_ls ad ls)) (kk : ∀ ar1 : Array Slot, lv_has ar1 nL (mi_ls ad ls1) → W p l e R s m args below meth c H locs cells slots Q (F0 m pc1 ar1 (mi_st ad st1))) : W p l e R s m args below meth c H locs cells slots Q (F0 m pc ar (mi_st ad st)) := by
  cases (beq_iff_eq.mp hlen)
  simp only [mi_pure] at h
  split at h
  next x hx =>
    cases h
    exact lv_lload_n hexec hb hd rfl (mi_lk_ok har hx) (kk ar har)
  next => cases h
theorem mi_p_lload (hexec : p.tables.exec = Jvm.exec) (hb : c.code = cc) {i : Nat} (hd : decode cc pc = .ok (.lload i, len)) (hlen : mi_len (.lload i) len = true) {pc1 : Nat} {ls1 : mi_L} {st1 : List Value} (h : mi_pure (.lload i) pc nL ls st = some (pc1, ls1, st1)) (har : lv_has ar nL (mi_ls ad ls)) (kk : ∀ ar1 : Array Slot, lv_has ar1 nL (mi_ls ad ls1) → W p l e R s m args below meth c H locs cells slots Q (F0 m pc1 ar1 (mi_st ad st1))) : W p l e R s m args below meth c H locs cells slots Q (F0 m pc ar (mi_st ad st)) := by
  cases (beq_iff_eq.mp hlen)
  simp only [mi_pure] at h
  split at h
  next x hx =>
    cases h
    exact lv_lload hexec hb hd (mi_lk_ok har hx) (kk ar har)
  next => cases h
theorem mi_p_aload_n (hexec : p.tables.exec = Jvm.exec) (hb : c.code = cc) {k : Fin 4} (hd : decode cc pc = .ok (.aload_n k, len)) (hlen : mi_len (.aload_n k) len = true) {pc1 : Nat} {ls1 : mi_L} {st1 : List Value} (h : mi_pure (.aload_n k) pc nL ls st = some (pc1, ls1, st1)) (har : lv_has ar nL (mi_ls ad ls)) (kk : ∀ ar1 : Array Slot, lv_has ar1 nL (mi_ls ad ls1) → W p l e R s m args below meth c H locs cells slots Q (F0 m pc1 ar1 (mi_st ad st1))) : W p l e R s m args below meth c H locs cells slots Q (F0 m pc ar (mi_st ad st)) := by
  cases (beq_iff_eq.mp hlen)
  simp only [mi_pure] at h
  split at h
  next x hx =>
    cases h
    exact lv_aload_n hexec hb hd rfl (mi_lk_ok har hx) (kk ar har)
  next => cases h
theorem mi_p_aload (hexec : p.tables.exec = Jvm.exec) (hb : c.code = cc) {i : Nat} (hd : decode cc pc = .ok (.aload i, len)) (hlen : mi_len (.aload i) len = true) {pc1 : Nat} {ls1 : mi_L} {st1 : List Value} (h : mi_pure (.aload i) pc nL ls st = some (pc1, ls1, st1)) (har : lv_has ar nL (mi_ls ad ls)) (kk : ∀ ar1 : Array Slot, lv_has ar1 nL (mi_ls ad ls1) → W p l e R s m args below meth c H locs cells slots Q (F0 m pc1 ar1 (mi_st ad st1))) : W p l e R s m args below meth c H locs cells slots Q (F0 m pc ar (mi_st ad st)) := by
  cases (beq_iff_eq.mp hlen)
  simp only [mi_pure] at h
  split at h
  next x hx =>
    cases h
    exact lv_aload hexec hb hd (mi_lk_ok har hx) (kk ar har)
  next => cases h
theorem mi_p_istore_n (hexec : p.tables.exec = Jvm.exec) (hb : c.code = cc) {k : Fin 4} (hd : decode cc pc = .ok (.istore_n k, len)) (hlen : mi_len (.istore_n k) len = true) {pc1 : Nat} {ls1 : mi_L} {st1 : List Value} (h : mi_pure (.istore_n k) pc nL ls st = some (pc1, ls1, st1)) (har : lv_has ar nL (mi_ls ad ls)) (kk : ∀ ar1 : Array Slot, lv_has ar1 nL (mi_ls ad ls1) → W p l e R s m args below meth c H locs cells slots Q (F0 m pc1 ar1 (mi_st ad st1))) : W p l e R s m args below meth c H locs cells slots Q (F0 m pc ar (mi_st ad st)) := by
  cases (beq_iff_eq.mp hlen)
  simp only [mi_pure] at h
  split at h
  next x r =>
    split at h
    next hn =>
      cases h
      exact lv_istore_n hexec hb hd rfl har (mi_blt hn) (mi_s1_ok ad ls _ (.int x)) (fun ar1 h1 => kk ar1 h1)
    next => cases h
  next => cases h
theorem mi_p_istore (hexec : p.tables.exec = Jvm.exec) (hb : c.code = cc) {i : Nat} (hd : decode cc pc = .ok (.istore i, len)) (hlen : mi_len (.istore i) len = true) {pc1 : Nat} {ls1 : mi_L} {st1 : List Value} (h : mi_pure (.istore i) pc nL ls st = some (pc1, ls1, st1)) (har : lv_has ar nL (mi_ls ad ls)) (kk : ∀ ar1 : Array Slot, lv_has ar1 nL (mi_ls ad ls1) → W p l e R s m args below meth c H locs cells slots Q (F0 m pc1 ar1 (mi_st ad st1))) : W p l e R s m args below meth c H locs cells slots Q (F0 m pc ar (mi_st ad st)) := by
  cases (beq_iff_eq.mp hlen)
  simp only [mi_pure] at h
  split at h
  next x r =>
    split at h
    next hn =>
      cases h
      exact lv_istore hexec hb hd har (mi_blt hn) (mi_s1_ok ad ls _ (.int x)) (fun ar1 h1 => kk ar1 h1)
    next => cases h
  next => cases h
theorem mi_p_lstore_n (hexec : p.tables.exec = Jvm.exec) (hb : c.code = cc) {k : Fin 4} (hd : decode cc pc = .ok (.lstore_n k, len)) (hlen : mi_len (.lstore_n k) len = true) {pc1 : Nat} {ls1 : mi_L} {st1 : List Value} (h : mi_pure (.lstore_n k) pc nL ls st = some (pc1, ls1, st1)) (har : lv_has ar nL (mi_ls ad ls)) (kk : ∀ ar1 : Array Slot, lv_has ar1 nL (mi_ls ad ls1) → W p l e R s m args below meth c H locs cells slots Q (F0 m pc1 ar1 (mi_st ad st1))) : W p l e R s m args below meth c H locs cells slots Q (F0 m pc ar (mi_st ad st)) := by
  cases (beq_iff_eq.mp hlen)
  simp only [mi_pure] at h
  split at h
  next x r =>
    split at h
    next hn =>
      cases h
      exact lv_lstore_n hexec hb hd rfl har (mi_blt hn) (mi_s2_ok ad ls _ (.long x)) (fun ar1 h1 => kk ar1 h1)
    next => cases h
  next => cases h
theorem mi_p_lstore (hexec : p.tables.exec = Jvm.exec) (hb : c.code = cc) {i : Nat} (hd : decode cc pc = .ok (.lstore i, len)) (hlen : mi_len (.lstore i) len = true) {pc1 : Nat} {ls1 : mi_L} {st1 : List Value} (h : mi_pure (.lstore i) pc nL ls st = some (pc1, ls1, st1)) (har : lv_has ar nL (mi_ls ad ls)) (kk : ∀ ar1 : Array Slot, lv_has ar1 nL (mi_ls ad ls1) → W p l e R s m args below meth c H locs cells slots Q (F0 m pc1 ar1 (mi_st ad st1))) : W p l e R s m args below meth c H locs cells slots Q (F0 m pc ar (mi_st ad st)) := by
  cases (beq_iff_eq.mp hlen)
  simp only [mi_pure] at h
  split at h
  next x r =>
    split at h
    next hn =>
      cases h
      exact lv_lstore hexec hb hd har (mi_blt hn) (mi_s2_ok ad ls _ (.long x)) (fun ar1 h1 => kk ar1 h1)
    next => cases h
  next => cases h
theorem mi_p_astore_n (hexec : p.tables.exec = Jvm.exec) (hb : c.code = cc) {k : Fin 4} (hd : decode cc pc = .ok (.astore_n k, len)) (hlen : mi_len (.astore_n k) len = true) {pc1 : Nat} {ls1 : mi_L} {st1 : List Value} (h : mi_pure (.astore_n k) pc nL ls st = some (pc1, ls1, st1)) (har : lv_has ar nL (mi_ls ad ls)) (kk : ∀ ar1 : Array Slot, lv_has ar1 nL (mi_ls ad ls1) → W p l e R s m args below meth c H locs cells slots Q (F0 m pc1 ar1 (mi_st ad st1))) : W p l e R s m args below meth c H locs cells slots Q (F0 m pc ar (mi_st ad st)) := by
  cases (beq_iff_eq.mp hlen)
  simp only [mi_pure] at h
  split at h
  next x r =>
    split at h
    next hn =>
      cases h
      exact lv_astore_n hexec hb hd rfl har (mi_blt hn) (mi_s1_ok ad ls _ (.ref x)) (fun ar1 h1 => kk ar1 h1)
    next => cases h
  next => cases h
theorem mi_p_astore (hexec : p.tables.exec = Jvm.exec) (hb : c.code = cc) {i : Nat} (hd : decode cc pc = .ok (.astore i, len)) (hlen : mi_len (.astore i) len = true) {pc1 : Nat} {ls1 : mi_L} {st1 : List Value} (h : mi_pure (.astore i) pc nL ls st = some (pc1, ls1, st1)) (har : lv_has ar nL (mi_ls ad ls)) (kk : ∀ ar1 : Array Slot, lv_has ar1 nL (mi_ls ad ls1) → W p l e R s m args below meth c H locs cells slots Q (F0 m pc1 ar1 (mi_st ad st1))) : W p l e R s m args below meth c H locs cells slots Q (F0 m pc ar (mi_st ad st)) := by
  cases (beq_iff_eq.mp hlen)
  simp only [mi_pure] at h
  split at h
  next x r =>
    split at h
    next hn =>
      cases h
      exact lv_astore hexec hb hd har (mi_blt hn) (mi_s1_ok ad ls _ (.ref x)) (fun ar1 h1 => kk ar1 h1)
    next => cases h
  next => cases h
theorem mi_p_iinc (hexec : p.tables.exec = Jvm.exec) (hb : c.code = cc) {i : Nat} {n : Int} (hd : decode cc pc = .ok (.iinc i n, len)) (hlen : mi_len (.iinc i n) len = true) {pc1 : Nat} {ls1 : mi_L} {st1 : List Value} (h : mi_pure (.iinc i n) pc nL ls st = some (pc1, ls1, st1)) (har : lv_has ar nL (mi_ls ad ls)) (kk : ∀ ar1 : Array Slot, lv_has ar1 nL (mi_ls ad ls1) → W p l e R s m args below meth c H locs cells slots Q (F0 m pc1 ar1 (mi_st ad st1))) : W p l e R s m args below meth c H locs cells slots Q (F0 m pc ar (mi_st ad st)) := by
  cases (beq_iff_eq.mp hlen)
  simp only [mi_pure] at h
  split at h
  next x hx =>
    split at h
    next hn =>
      cases h
      obtain ⟨k, hk⟩ := mi_lk_at (ad := ad) hx
      exact lv_iinc hexec hb hd har hk rfl (mi_blt hn) (mi_s1_ok ad ls _ (.int _)) (fun ar1 h1 => kk ar1 h1)
    next => cases h
  next => cases h
theorem mi_p_iadd (hexec : p.tables.exec = Jvm.exec) (hb : c.code = cc) (hd : decode cc pc = .ok (.iadd, len)) (hlen : mi_len (.iadd) len = true) {pc1 : Nat} {ls1 : mi_L} {st1 : List Value} (h : mi_pure (.iadd) pc nL ls st = some (pc1, ls1, st1)) (har : lv_has ar nL (mi_ls ad ls)) (kk : ∀ ar1 : Array Slot, lv_has ar1 nL (mi_ls ad ls1) → W p l e R s m args below meth c H locs cells slots Q (F0 m pc1 ar1 (mi_st ad st1))) : W p l e R s m args below meth c H locs cells slots Q (F0 m pc ar (mi_st ad st)) := by
  cases (beq_iff_eq.mp hlen)
  simp only [mi_pure] at h
  split at h
  next y x r =>
    cases h
    exact lv_iadd hexec hb hd (kk ar har)
  next => cases h
theorem mi_p_isub (hexec : p.tables.exec = Jvm.exec) (hb : c.code = cc) (hd : decode cc pc = .ok (.isub, len)) (hlen : mi_len (.isub) len = true) {pc1 : Nat} {ls1 : mi_L} {st1 : List Value} (h : mi_pure (.isub) pc nL ls st = some (pc1, ls1, st1)) (har : lv_has ar nL (mi_ls ad ls)) (kk : ∀ ar1 : Array Slot, lv_has ar1 nL (mi_ls ad ls1) → W p l e R s m args below meth c H locs cells slots Q (F0 m pc1 ar1 (mi_st ad st1))) : W p l e R s m args below meth c H locs cells slots Q (F0 m pc ar (mi_st ad st)) := by
  cases (beq_iff_eq.mp hlen)
  simp only [mi_pure] at h
  split at h
  next y x r =>
    cases h
    exact lv_isub hexec hb hd (kk ar har)
  next => cases h
theorem mi_p_imul (hexec : p.tables.exec = Jvm.exec) (hb : c.code = cc) (hd : decode cc pc = .ok (.imul, len)) (hlen : mi_len (.imul) len = true) {pc1 : Nat} {ls1 : mi_L} {st1 : List Value} (h : mi_pure (.imul) pc nL ls st = some (pc1, ls1, st1)) (har : lv_has ar nL (mi_ls ad ls)) (kk : ∀ ar1 : Array Slot, lv_has ar1 nL (mi_ls ad ls1) → W p l e R s m args below meth c H locs cells slots Q (F0 m pc1 ar1 (mi_st ad st1))) : W p l e R s m args below meth c H locs cells slots Q (F0 m pc ar (mi_st ad st)) := by
  cases (beq_iff_eq.mp hlen)
  simp only [mi_pure] at h
  split at h
  next y x r =>
    cases h
    exact lv_imul hexec hb hd (kk ar har)
  next => cases h
theorem mi_p_iand (hexec : p.tables.exec = Jvm.exec) (hb : c.code = cc) (hd : decode cc pc = .ok (.iand, len)) (hlen : mi_len (.iand) len = true) {pc1 : Nat} {ls1 : mi_L} {st1 : List Value} (h : mi_pure (.iand) pc nL ls st = some (pc1, ls1, st1)) (har : lv_has ar nL (mi_ls ad ls)) (kk : ∀ ar1 : Array Slot, lv_has ar1 nL (mi_ls ad ls1) → W p l e R s m args below meth c H locs cells slots Q (F0 m pc1 ar1 (mi_st ad st1))) : W p l e R s m args below meth c H locs cells slots Q (F0 m pc ar (mi_st ad st)) := by
  cases (beq_iff_eq.mp hlen)
  simp only [mi_pure] at h
  split at h
  next y x r =>
    cases h
    exact lv_iand hexec hb hd (kk ar har)
  next => cases h
theorem mi_p_ior (hexec : p.tables.exec = Jvm.exec) (hb : c.code = cc) (hd : decode cc pc = .ok (.ior, len)) (hlen : mi_len (.ior) len = true) {pc1 : Nat} {ls1 : mi_L} {st1 : List Value} (h : mi_pure (.ior) pc nL ls st = some (pc1, ls1, st1)) (har : lv_has ar nL (mi_ls ad ls)) (kk : ∀ ar1 : Array Slot, lv_has ar1 nL (mi_ls ad ls1) → W p l e R s m args below meth c H locs cells slots Q (F0 m pc1 ar1 (mi_st ad st1))) : W p l e R s m args below meth c H locs cells slots Q (F0 m pc ar (mi_st ad st)) := by
  cases (beq_iff_eq.mp hlen)
  simp only [mi_pure] at h
  split at h
  next y x r =>
    cases h
    exact lv_ior hexec hb hd (kk ar har)
  next => cases h
theorem mi_p_ixor (hexec : p.tables.exec = Jvm.exec) (hb : c.code = cc) (hd : decode cc pc = .ok (.ixor, len)) (hlen : mi_len (.ixor) len = true) {pc1 : Nat} {ls1 : mi_L} {st1 : List Value} (h : mi_pure (.ixor) pc nL ls st = some (pc1, ls1, st1)) (har : lv_has ar nL (mi_ls ad ls)) (kk : ∀ ar1 : Array Slot, lv_has ar1 nL (mi_ls ad ls1) → W p l e R s m args below meth c H locs cells slots Q (F0 m pc1 ar1 (mi_st ad st1))) : W p l e R s m args below meth c H locs cells slots Q (F0 m pc ar (mi_st ad st)) := by
  cases (beq_iff_eq.mp hlen)
  simp only [mi_pure] at h
  split at h
  next y x r =>
    cases h
    exact lv_ixor hexec hb hd (kk ar har)
  next => cases h
theorem mi_p_ishl (hexec : p.tables.exec = Jvm.exec) (hb : c.code = cc) (hd : decode cc pc = .ok (.ishl, len)) (hlen : mi_len (.ishl) len = true) {pc1 : Nat} {ls1 : mi_L} {st1 : List Value} (h : mi_pure (.ishl) pc nL ls st = some (pc1, ls1, st1)) (har : lv_has ar nL (mi_ls ad ls)) (kk : ∀ ar1 : Array Slot, lv_has ar1 nL (mi_ls ad ls1) → W p l e R s m args below meth c H locs cells slots Q (F0 m pc1 ar1 (mi_st ad st1))) : W p l e R s m args below meth c H locs cells slots Q (F0 m pc ar (mi_st ad st)) := by
  cases (beq_iff_eq.mp hlen)
  simp only [mi_pure] at h
  split at h
  next y x r =>
    cases h
    exact lv_ishl hexec hb hd (kk ar har)
  next => cases h
theorem mi_p_ishr (hexec : p.tables.exec = Jvm.exec) (hb : c.code = cc) (hd : decode cc pc = .ok (.ishr, len)) (hlen : mi_len (.ishr) len = true) {pc1 : Nat} {ls1 : mi_L} {st1 : List Value} (h : mi_pure (.ishr) pc nL ls st = some (pc1, ls1, st1)) (har : lv_has ar nL (mi_ls ad ls)) (kk : ∀ ar1 : Array Slot, lv_has ar1 nL (mi_ls ad ls1) → W p l e R s m args below meth c H locs cells slots Q (F0 m pc1 ar1 (mi_st ad st1))) : W p l e R s m args below meth c H locs cells slots Q (F0 m pc ar (mi_st ad st)) := by
  cases (beq_iff_eq.mp hlen)
  simp only [mi_pure] at h
  split at h
  next y x r =>
    cases h
    exact lv_ishr hexec hb hd (kk ar har)
  next => cases h
theorem mi_p_iushr (hexec : p.tables.exec = Jvm.exec) (hb : c.code = cc) (hd : decode cc pc = .ok (.iushr, len)) (hlen : mi_len (.iushr) len = true) {pc1 : Nat} {ls1 : mi_L} {st1 : List Value} (h : mi_pure (.iushr) pc nL ls st = some (pc1, ls1, st1)) (har : lv_has ar nL (mi_ls ad ls)) (kk : ∀ ar1 : Array Slot, lv_has ar1 nL (mi_ls ad ls1) → W p l e R s m args below meth c H locs cells slots Q (F0 m pc1 ar1 (mi_st ad st1))) : W p l e R s m args below meth c H locs cells slots Q (F0 m pc ar (mi_st ad st)) := by
  cases (beq_iff_eq.mp hlen)
  simp only [mi_pure] at h
  split at h
  next y x r =>
    cases h
    exact lv_iushr hexec hb hd rfl (kk ar har)
  next => cases h
theorem mi_p_idiv (hexec : p.tables.exec = Jvm.exec) (hb : c.code = cc) (hd : decode cc pc = .ok (.idiv, len)) (hlen : mi_len (.idiv) len = true) {pc1 : Nat} {ls1 : mi_L} {st1 : List Value} (h : mi_pure (.idiv) pc nL ls st = some (pc1, ls1, st1)) (har : lv_has ar nL (mi_ls ad ls)) (kk : ∀ ar1 : Array Slot, lv_has ar1 nL (mi_ls ad ls1) → W p l e R s m args below meth c H locs cells slots Q (F0 m pc1 ar1 (mi_st ad st1))) : W p l e R s m args below meth c H locs cells slots Q (F0 m pc ar (mi_st ad st)) := by
  cases (beq_iff_eq.mp hlen)
  simp only [mi_pure] at h
  split at h
  next y x r =>
    split at h
    next => cases h
    next hy =>
      cases h
      exact lv_idiv hexec hb hd (beq_eq_false_iff_ne.mp hy) (kk ar har)
  next => cases h
theorem mi_p_irem (hexec : p.tables.exec = Jvm.exec) (hb : c.code = cc) (hd : decode cc pc = .ok (.irem, len)) (hlen : mi_len (.irem) len = true) {pc1 : Nat} {ls1 : mi_L} {st1 : List Value} (h : mi_pure (.irem) pc nL ls st = some (pc1, ls1, st1)) (har : lv_has ar nL (mi_ls ad ls)) (kk : ∀ ar1 : Array Slot, lv_has ar1 nL (mi_ls ad ls1) → W p l e R s m args below meth c H locs cells slots Q (F0 m pc1 ar1 (mi_st ad st1))) : W p l e R s m args below meth c H locs cells slots Q (F0 m pc ar (mi_st ad st)) := by
  cases (beq_iff_eq.mp hlen)
  simp only [mi_pure] at h
  split at h
  next y x r =>
    split at h
    next => cases h
    next hy =>
      cases h
      exact lv_irem hexec hb hd (beq_eq_false_iff_ne.mp hy) (kk ar har)
  next => cases h
theorem mi_p_ladd (hexec : p.tables.exec = Jvm.exec) (hb : c.code = cc) (hd : decode cc pc = .ok (.ladd, len)) (hlen : mi_len (.ladd) len = true) {pc1 : Nat} {ls1 : mi_L} {st1 : List Value} (h : mi_pure (.ladd) pc nL ls st = some (pc1, ls1, st1)) (har : lv_has ar nL (mi_ls ad ls)) (kk : ∀ ar1 : Array Slot, lv_has ar1 nL (mi_ls ad ls1) → W p l e R s m args below meth c H locs cells slots Q (F0 m pc1 ar1 (mi_st ad st1))) : W p l e R s m args below meth c H locs cells slots Q (F0 m pc ar (mi_st ad st)) := by
  cases (beq_iff_eq.mp hlen)
  simp only [mi_pure] at h
  split at h
  next y x r =>
    cases h
    exact lv_ladd hexec hb hd (kk ar har)
  next => cases h
theorem mi_p_lmul (hexec : p.tables.exec = Jvm.exec) (hb : c.code = cc) (hd : decode cc pc = .ok (.lmul, len)) (hlen : mi_len (.lmul) len = true) {pc1 : Nat} {ls1 : mi_L} {st1 : List Value} (h : mi_pure (.lmul) pc nL ls st = some (pc1, ls1, st1)) (har : lv_has ar nL (mi_ls ad ls)) (kk : ∀ ar1 : Array Slot, lv_has ar1 nL (mi_ls ad ls1) → W p l e R s m args below meth c H locs cells slots Q (F0 m pc1 ar1 (mi_st ad st1))) : W p l e R s m args below meth c H locs cells slots Q (F0 m pc ar (mi_st ad st)) := by
  cases (beq_iff_eq.mp hlen)
  simp only [mi_pure] at h
  split at h
  next y x r =>
    cases h
    exact lv_lmul hexec hb hd (kk ar har)
  next => cases h
theorem mi_p_land (hexec : p.tables.exec = Jvm.exec) (hb : c.code = cc) (hd : decode cc pc = .ok (.land, len)) (hlen : mi_len (.land) len = true) {pc1 : Nat} {ls1 : mi_L} {st1 : List Value} (h : mi_pure (.land) pc nL ls st = some (pc1, ls1, st1)) (har : lv_has ar nL (mi_ls ad ls)) (kk : ∀ ar1 : Array Slot, lv_has ar1 nL (mi_ls ad ls1) → W p l e R s m args below meth c H locs cells slots Q (F0 m pc1 ar1 (mi_st ad st1))) : W p l e R s m args below meth c H locs cells slots Q (F0 m pc ar (mi_st ad st)) := by
  cases (beq_iff_eq.mp hlen)
  simp only [mi_pure] at h
  split at h
  next y x r =>
    cases h
    exact lv_land hexec hb hd (kk ar har)
  next => cases h
theorem mi_p_lor (hexec : p.tables.exec = Jvm.exec) (hb : c.code = cc) (hd : decode cc pc = .ok (.lor, len)) (hlen : mi_len (.lor) len = true) {pc1 : Nat} {ls1 : mi_L} {st1 : List Value} (h : mi_pure (.lor) pc nL ls st = some (pc1, ls1, st1)) (har : lv_has ar nL (mi_ls ad ls)) (kk : ∀ ar1 : Array Slot, lv_has ar1 nL (mi_ls ad ls1) → W p l e R s m args below meth c H locs cells slots Q (F0 m pc1 ar1 (mi_st ad st1))) : W p l e R s m args below meth c H locs cells slots Q (F0 m pc ar (mi_st ad st)) := by
  cases (beq_iff_eq.mp hlen)
  simp only [mi_pure] at h
  split at h
  next y x r =>
    cases h
    exact lv_lor hexec hb hd (kk ar har)
  next => cases h
theorem mi_p_lshl (hexec : p.tables.exec = Jvm.exec) (hb : c.code = cc) (hd : decode cc pc = .ok (.lshl, len)) (hlen : mi_len (.lshl) len = true) {pc1 : Nat} {ls1 : mi_L} {st1 : List Value} (h : mi_pure (.lshl) pc nL ls st = some (pc1, ls1, st1)) (har : lv_has ar nL (mi_ls ad ls)) (kk : ∀ ar1 : Array Slot, lv_has ar1 nL (mi_ls ad ls1) → W p l e R s m args below meth c H locs cells slots Q (F0 m pc1 ar1 (mi_st ad st1))) : W p l e R s m args below meth c H locs cells slots Q (F0 m pc ar (mi_st ad st)) := by
  cases (beq_iff_eq.mp hlen)
  simp only [mi_pure] at h
  split at h
  next y x r =>
    cases h
    exact lv_lshl hexec hb hd rfl (kk ar har)
  next => cases h
theorem mi_p_lcmp (hexec : p.tables.exec = Jvm.exec) (hb : c.code = cc) (hd : decode cc pc = .ok (.lcmp, len)) (hlen : mi_len (.lcmp) len = true) {pc1 : Nat} {ls1 : mi_L} {st1 : List Value} (h : mi_pure (.lcmp) pc nL ls st = some (pc1, ls1, st1)) (har : lv_has ar nL (mi_ls ad ls)) (kk : ∀ ar1 : Array Slot, lv_has ar1 nL (mi_ls ad ls1) → W p l e R s m args below meth c H locs cells slots Q (F0 m pc1 ar1 (mi_st ad st1))) : W p l e R s m args below meth c H locs cells slots Q (F0 m pc ar (mi_st ad st)) := by
  cases (beq_iff_eq.mp hlen)
  simp only [mi_pure] at h
  split at h
  next y x r =>
    cases h
    exact W.lcmp hexec hb hd (kk ar har)
  next => cases h
theorem mi_p_ineg (hexec : p.tables.exec = Jvm.exec) (hb : c.code = cc) (hd : decode cc pc = .ok (.ineg, len)) (hlen : mi_len (.ineg) len = true) {pc1 : Nat} {ls1 : mi_L} {st1 : List Value} (h : mi_pure (.ineg) pc nL ls st = some (pc1, ls1, st1)) (har : lv_has ar nL (mi_ls ad ls)) (kk : ∀ ar1 : Array Slot, lv_has ar1 nL (mi_ls ad ls1) → W p l e R s m args below meth c H locs cells slots Q (F0 m pc1 ar1 (mi_st ad st1))) : W p l e R s m args below meth c H locs cells slots Q (F0 m pc ar (mi_st ad st)) := by
  cases (beq_iff_eq.mp hlen)
  simp only [mi_pure] at h
  split at h
  next x r =>
    cases h
    exact lv_ineg hexec hb hd (kk ar har)
  next => cases h
theorem mi_p_i2l (hexec : p.tables.exec = Jvm.exec) (hb : c.code = cc) (hd : decode cc pc = .ok (.i2l, len)) (hlen : mi_len (.i2l) len = true) {pc1 : Nat} {ls1 : mi_L} {st1 : List Value} (h : mi_pure (.i2l) pc nL ls st = some (pc1, ls1, st1)) (har : lv_has ar nL (mi_ls ad ls)) (kk : ∀ ar1 : Array Slot, lv_has ar1 nL (mi_ls ad ls1) → W p l e R s m args below meth c H locs cells slots Q (F0 m pc1 ar1 (mi_st ad st1))) : W p l e R s m args below meth c H locs cells slots Q (F0 m pc ar (mi_st ad st)) := by
  cases (beq_iff_eq.mp hlen)
  simp only [mi_pure] at h
  split at h
  next x r =>
    cases h
    exact lv_i2l hexec hb hd rfl (kk ar har)
  next => cases h
theorem mi_p_l2i (hexec : p.tables.exec = Jvm.exec) (hb : c.code = cc) (hd : decode cc pc = .ok (.l2i, len)) (hlen : mi_len (.l2i) len = true) {pc1 : Nat} {ls1 : mi_L} {st1 : List Value} (h : mi_pure (.l2i) pc nL ls st = some (pc1, ls1, st1)) (har : lv_has ar nL (mi_ls ad ls)) (kk : ∀ ar1 : Array Slot, lv_has ar1 nL (mi_ls ad ls1) → W p l e R s m args below meth c H locs cells slots Q (F0 m pc1 ar1 (mi_st ad st1))) : W p l e R s m args below meth c H locs cells slots Q (F0 m pc ar (mi_st ad st)) := by
  cases (beq_iff_eq.mp hlen)
  simp only [mi_pure] at h
  split at h
  next x r =>
    cases h
    exact lv_l2i hexec hb hd rfl (kk ar har)
  next => cases h
theorem mi_p_i2b (hexec : p.tables.exec = Jvm.exec) (hb : c.code = cc) (hd : decode cc pc = .ok (.i2b, len)) (hlen : mi_len (.i2b) len = true) {pc1 : Nat} {ls1 : mi_L} {st1 : List Value} (h : mi_pure (.i2b) pc nL ls st = some (pc1, ls1, st1)) (har : lv_has ar nL (mi_ls ad ls)) (kk : ∀ ar1 : Array Slot, lv_has ar1 nL (mi_ls ad ls1) → W p l e R s m args below meth c H locs cells slots Q (F0 m pc1 ar1 (mi_st ad st1))) : W p l e R s m args below meth c H locs cells slots Q (F0 m pc ar (mi_st ad st)) := by
  cases (beq_iff_eq.mp hlen)
  simp only [mi_pure] at h
  split at h
  next x r =>
    cases h
    exact lv_i2b hexec hb hd rfl (kk ar har)
  next => cases h
theorem mi_p_i2s (hexec : p.tables.exec = Jvm.exec) (hb : c.code = cc) (hd : decode cc pc = .ok (.i2s, len)) (hlen : mi_len (.i2s) len = true) {pc1 : Nat} {ls1 : mi_L} {st1 : List Value} (h : mi_pure (.i2s) pc nL ls st = some (pc1, ls1, st1)) (har : lv_has ar nL (mi_ls ad ls)) (kk : ∀ ar1 : Array Slot, lv_has ar1 nL (mi_ls ad ls1) → W p l e R s m args below meth c H locs cells slots Q (F0 m pc1 ar1 (mi_st ad st1))) : W p l e R s m args below meth c H locs cells slots Q (F0 m pc ar (mi_st ad st)) := by
  cases (beq_iff_eq.mp hlen)
  simp only [mi_pure] at h
  split at h
  next x r =>
    cases h
    exact lv_i2s hexec hb hd rfl (kk ar har)
  next => cases h
theorem mi_p_i2c (hexec : p.tables.exec = Jvm.exec) (hb : c.code = cc) (hd : decode cc pc = .ok (.i2c, len)) (hlen : mi_len (.i2c) len = true) {pc1 : Nat} {ls1 : mi_L} {st1 : List Value} (h : mi_pure (.i2c) pc nL ls st = some (pc1, ls1, st1)) (har : lv_has ar nL (mi_ls ad ls)) (kk : ∀ ar1 : Array Slot, lv_has ar1 nL (mi_ls ad ls1) → W p l e R s m args below meth c H locs cells slots Q (F0 m pc1 ar1 (mi_st ad st1))) : W p l e R s m args below meth c H locs cells slots Q (F0 m pc ar (mi_st ad st)) := by
  cases (beq_iff_eq.mp hlen)
  simp only [mi_pure] at h
  split at h
  next x r =>
    cases h
    exact lv_i2c hexec hb hd rfl (kk ar har)
  next => cases h
theorem mi_p_dup (hexec : p.tables.exec = Jvm.exec) (hb : c.code = cc) (hd : decode cc pc = .ok (.dup, len)) (hlen : mi_len (.dup) len = true) {pc1 : Nat} {ls1 : mi_L} {st1 : List Value} (h : mi_pure (.dup) pc nL ls st = some (pc1, ls1, st1)) (har : lv_has ar nL (mi_ls ad ls)) (kk : ∀ ar1 : Array Slot, lv_has ar1 nL (mi_ls ad ls1) → W p l e R s m args below meth c H locs cells slots Q (F0 m pc1 ar1 (mi_st ad st1))) : W p l e R s m args below meth c H locs cells slots Q (F0 m pc ar (mi_st ad st)) := by
  cases (beq_iff_eq.mp hlen)
  simp only [mi_pure] at h
  split at h
  next v r =>
    split at h
    next hv =>
      cases h
      exact lv_dup hexec hb hd ((mi_v_cat ad v).trans (beq_iff_eq.mp hv)) (kk ar har)
    next => cases h
  next => cases h
theorem mi_p_pop (hexec : p.tables.exec = Jvm.exec) (hb : c.code = cc) (hd : decode cc pc = .ok (.pop, len)) (hlen : mi_len (.pop) len = true) {pc1 : Nat} {ls1 : mi_L} {st1 : List Value} (h : mi_pure (.pop) pc nL ls st = some (pc1, ls1, st1)) (har : lv_has ar nL (mi_ls ad ls)) (kk : ∀ ar1 : Array Slot, lv_has ar1 nL (mi_ls ad ls1) → W p l e R s m args below meth c H locs cells slots Q (F0 m pc1 ar1 (mi_st ad st1))) : W p l e R s m args below meth c H locs cells slots Q (F0 m pc ar (mi_st ad st)) := by
  cases (beq_iff_eq.mp hlen)
  simp only [mi_pure] at h
  split at h
  next v r =>
    split at h
    next hv =>
      cases h
      exact lv_pop hexec hb hd ((mi_v_cat ad v).trans (beq_iff_eq.mp hv)) (kk ar har)
    next => cases h
  next => cases h
theorem mi_p_pop2 (hexec : p.tables.exec = Jvm.exec) (hb : c.code = cc) (hd : decode cc pc = .ok (.pop2, len)) (hlen : mi_len (.pop2) len = true) {pc1 : Nat} {ls1 : mi_L} {st1 : List Value} (h : mi_pure (.pop2) pc nL ls st = some (pc1, ls1, st1)) (har : lv_has ar nL (mi_ls ad ls)) (kk : ∀ ar1 : Array Slot, lv_has ar1 nL (mi_ls ad ls1) → W p l e R s m args below meth c H locs cells slots Q (F0 m pc1 ar1 (mi_st ad st1))) : W p l e R s m args below meth c H locs cells slots Q (F0 m pc ar (mi_st ad st)) := by
  cases (beq_iff_eq.mp hlen)
  simp only [mi_pure] at h
  split at h
  next v r =>
    split at h
    next hv =>
      cases h
      exact lv_pop2_2 hexec hb hd ((mi_v_cat ad v).trans (beq_iff_eq.mp hv)) (kk ar har)
    next => cases h
  next => cases h
theorem mi_p_dup_x1 (hexec : p.tables.exec = Jvm.exec) (hb : c.code = cc) (hd : decode cc pc = .ok (.dup_x1, len)) (hlen : mi_len (.dup_x1) len = true) {pc1 : Nat} {ls1 : mi_L} {st1 : List Value} (h : mi_pure (.dup_x1) pc nL ls st = some (pc1, ls1, st1)) (har : lv_has ar nL (mi_ls ad ls)) (kk : ∀ ar1 : Array Slot, lv_has ar1 nL (mi_ls ad ls1) → W p l e R s m args below meth c H locs cells slots Q (F0 m pc1 ar1 (mi_st ad st1))) : W p l e R s m args below meth c H locs cells slots Q (F0 m pc ar (mi_st ad st)) := by
  cases (beq_iff_eq.mp hlen)
  simp only [mi_pure] at h
  split at h
  next v u r =>
    split at h
    next hv =>
      cases h
      obtain ⟨h1, h2⟩ := Bool.and_eq_true_iff.mp hv
      exact lv_dup_x1 hexec hb hd ((mi_v_cat ad v).trans (beq_iff_eq.mp h1)) ((mi_v_cat ad u).trans (beq_iff_eq.mp h2)) (kk ar har)
    next => cases h
  next => cases h
theorem mi_p_dup2 (hexec : p.tables.exec = Jvm.exec) (hb : c.code = cc) (hd : decode cc pc = .ok (.dup2, len)) (hlen : mi_len (.dup2) len = true) {pc1 : Nat} {ls1 : mi_L} {st1 : List Value} (h : mi_pure (.dup2) pc nL ls st = some (pc1, ls1, st1)) (har : lv_has ar nL (mi_ls ad ls)) (kk : ∀ ar1 : Array Slot, lv_has ar1 nL (mi_ls ad ls1) → W p l e R s m args below meth c H locs cells slots Q (F0 m pc1 ar1 (mi_st ad st1))) : W p l e R s m args below meth c H locs cells slots Q (F0 m pc ar (mi_st ad st)) := by
  cases (beq_iff_eq.mp hlen)
  simp only [mi_pure] at h
  split at h
  next v u r =>
    split at h
    next hv =>
      cases h
      obtain ⟨h1, h2⟩ := Bool.and_eq_true_iff.mp hv
      exact lv_dup2_11 hexec hb hd ((mi_v_cat ad v).trans (beq_iff_eq.mp h1)) ((mi_v_cat ad u).trans (beq_iff_eq.mp h2)) (kk ar har)
    next => cases h
  next => cases h
theorem mi_p_if_eq (hexec : p.tables.exec = Jvm.exec) (hb : c.code = cc) {off : Int} (hd : decode cc pc = .ok (.ifCond .eq off, len)) (hlen : mi_len (.ifCond .eq off) len = true) {pc1 : Nat} {ls1 : mi_L} {st1 : List Value} (h : mi_pure (.ifCond .eq off) pc nL ls st = some (pc1, ls1, st1)) (har : lv_has ar nL (mi_ls ad ls)) (kk : ∀ ar1 : Array Slot, lv_has ar1 nL (mi_ls ad ls1) → W p l e R s m args below meth c H locs cells slots Q (F0 m pc1 ar1 (mi_st ad st1))) : W p l e R s m args below meth c H locs cells slots Q (F0 m pc ar (mi_st ad st)) := by
  cases (beq_iff_eq.mp hlen)
  simp only [mi_pure] at h
  split at h
  next x r =>
    obtain ⟨t, ht, rfl, rfl, p1, p2⟩ := mi_br_ok h
    refine lv_if_eq hexec hb hd ht ?_ ?_
    · exact fun z => by have hk := kk ar har; rw [p1 (beq_iff_eq.mpr z)] at hk; exact hk
    · exact fun z => by have hk := kk ar har; rw [p2 (beq_eq_false_iff_ne.mpr z)] at hk; exact hk
  next => cases h
theorem mi_p_icmp_eq (hexec : p.tables.exec = Jvm.exec) (hb : c.code = cc) {off : Int} (hd : decode cc pc = .ok (.if_icmp .eq off, len)) (hlen : mi_len (.if_icmp .eq off) len = true) {pc1 : Nat} {ls1 : mi_L} {st1 : List Value} (h : mi_pure (.if_icmp .eq off) pc nL ls st = some (pc1, ls1, st1)) (har : lv_has ar nL (mi_ls ad ls)) (kk : ∀ ar1 : Array Slot, lv_has ar1 nL (mi_ls ad ls1) → W p l e R s m args below meth c H locs cells slots Q (F0 m pc1 ar1 (mi_st ad st1))) : W p l e R s m args below meth c H locs cells slots Q (F0 m pc ar (mi_st ad st)) := by
  cases (beq_iff_eq.mp hlen)
  simp only [mi_pure] at h
  split at h
  next y x r =>
    obtain ⟨t, ht, rfl, rfl, p1, p2⟩ := mi_br_ok h
    refine lv_icmp_eq hexec hb hd ht ?_ ?_
    · exact fun z => by have hk := kk ar har; rw [p1 (beq_iff_eq.mpr z)] at hk; exact hk
    · exact fun z => by have hk := kk ar har; rw [p2 (beq_eq_false_iff_ne.mpr z)] at hk; exact hk
  next => cases h
theorem mi_p_if_ne (hexec : p.tables.exec = Jvm.exec) (hb : c.code = cc) {off : Int} (hd : decode cc pc = .ok (.ifCond .ne off, len)) (hlen : mi_len (.ifCond .ne off) len = true) {pc1 : Nat} {ls1 : mi_L} {st1 : List Value} (h : mi_pure (.ifCond .ne off) pc nL ls st = some (pc1, ls1, st1)) (har : lv_has ar nL (mi_ls ad ls)) (kk : ∀ ar1 : Array Slot, lv_has ar1 nL (mi_ls ad ls1) → W p l e R s m args below meth c H locs cells slots Q (F0 m pc1 ar1 (mi_st ad st1))) : W p l e R s m args below meth c H locs cells slots Q (F0 m pc ar (mi_st ad st)) := by
  cases (beq_iff_eq.mp hlen)
  simp only [mi_pure] at h
  split at h
  next x r =>
    obtain ⟨t, ht, rfl, rfl, p1, p2⟩ := mi_br_ok h
    refine lv_if_ne hexec hb hd ht ?_ ?_
    · exact fun z => by have hk := kk ar har; rw [p1 (bne_iff_ne.mpr z)] at hk; exact hk
    · exact fun z => by have hk := kk ar har; rw [p2 (by rw [z]; exact bne_self_eq_false _)] at hk; exact hk
  next => cases h
theorem mi_p_icmp_ne (hexec : p.tables.exec = Jvm.exec) (hb : c.code = cc) {off : Int} (hd : decode cc pc = .ok (.if_icmp .ne off, len)) (hlen : mi_len (.if_icmp .ne off) len = true) {pc1 : Nat} {ls1 : mi_L} {st1 : List Value} (h : mi_pure (.if_icmp .ne off) pc nL ls st = some (pc1, ls1, st1)) (har : lv_has ar nL (mi_ls ad ls)) (kk : ∀ ar1 : Array Slot, lv_has ar1 nL (mi_ls ad ls1) → W p l e R s m args below meth c H locs cells slots Q (F0 m pc1 ar1 (mi_st ad st1))) : W p l e R s m args below meth c H locs cells slots Q (F0 m pc ar (mi_st ad st)) := by
  cases (beq_iff_eq.mp hlen)
  simp only [mi_pure] at h
  split at h
  next y x r =>
    obtain ⟨t, ht, rfl, rfl, p1, p2⟩ := mi_br_ok h
    refine lv_icmp_ne hexec hb hd ht ?_ ?_
    · exact fun z => by have hk := kk ar har; rw [p1 (bne_iff_ne.mpr z)] at hk; exact hk
    · exact fun z => by have hk := kk ar har; rw [p2 (by rw [z]; exact bne_self_eq_false _)] at hk; exact hk
  next => cases h
theorem mi_p_if_lt (hexec : p.tables.exec = Jvm.exec) (hb : c.code = cc) {off : Int} (hd : decode cc pc = .ok (.ifCond .lt off, len)) (hlen : mi_len (.ifCond .lt off) len = true) {pc1 : Nat} {ls1 : mi_L} {st1 : List Value} (h : mi_pure (.ifCond .lt off) pc nL ls st = some (pc1, ls1, st1)) (har : lv_has ar nL (mi_ls ad ls)) (kk : ∀ ar1 : Array Slot, lv_has ar1 nL (mi_ls ad ls1) → W p l e R s m args below meth c H locs cells slots Q (F0 m pc1 ar1 (mi_st ad st1))) : W p l e R s m args below meth c H locs cells slots Q (F0 m pc ar (mi_st ad st)) := by
  cases (beq_iff_eq.mp hlen)
  simp only [mi_pure] at h
  split at h
  next x r =>
    obtain ⟨t, ht, rfl, rfl, p1, p2⟩ := mi_br_ok h
    refine lv_if_lt hexec hb hd ht ?_ ?_
    · exact fun z => by have hk := kk ar har; rw [p1 (decide_eq_true z)] at hk; exact hk
    · exact fun z => by have hk := kk ar har; rw [p2 (decide_eq_false z)] at hk; exact hk
  next => cases h
theorem mi_p_icmp_lt (hexec : p.tables.exec = Jvm.exec) (hb : c.code = cc) {off : Int} (hd : decode cc pc = .ok (.if_icmp .lt off, len)) (hlen : mi_len (.if_icmp .lt off) len = true) {pc1 : Nat} {ls1 : mi_L} {st1 : List Value} (h : mi_pure (.if_icmp .lt off) pc nL ls st = some (pc1, ls1, st1)) (har : lv_has ar nL (mi_ls ad ls)) (kk : ∀ ar1 : Array Slot, lv_has ar1 nL (mi_ls ad ls1) → W p l e R s m args below meth c H locs cells slots Q (F0 m pc1 ar1 (mi_st ad st1))) : W p l e R s m args below meth c H locs cells slots Q (F0 m pc ar (mi_st ad st)) := by
  cases (beq_iff_eq.mp hlen)
  simp only [mi_pure] at h
  split at h
  next y x r =>
    obtain ⟨t, ht, rfl, rfl, p1, p2⟩ := mi_br_ok h
    refine lv_icmp_lt hexec hb hd ht ?_ ?_
    · exact fun z => by have hk := kk ar har; rw [p1 (decide_eq_true z)] at hk; exact hk
    · exact fun z => by have hk := kk ar har; rw [p2 (decide_eq_false z)] at hk; exact hk
  next => cases h
theorem mi_p_if_ge (hexec : p.tables.exec = Jvm.exec) (hb : c.code = cc) {off : Int} (hd : decode cc pc = .ok (.ifCond .ge off, len)) (hlen : mi_len (.ifCond .ge off) len = true) {pc1 : Nat} {ls1 : mi_L} {st1 : List Value} (h : mi_pure (.ifCond .ge off) pc nL ls st = some (pc1, ls1, st1)) (har : lv_has ar nL (mi_ls ad ls)) (kk : ∀ ar1 : Array Slot, lv_has ar1 nL (mi_ls ad ls1) → W p l e R s m args below meth c H locs cells slots Q (F0 m pc1 ar1 (mi_st ad st1))) : W p l e R s m args below meth c H locs cells slots Q (F0 m pc ar (mi_st ad st)) := by
  cases (beq_iff_eq.mp hlen)
  simp only [mi_pure] at h
  split at h
  next x r =>
    obtain ⟨t, ht, rfl, rfl, p1, p2⟩ := mi_br_ok h
    refine lv_if_ge hexec hb hd ht ?_ ?_
    · exact fun z => by have hk := kk ar har; rw [p1 (decide_eq_true z)] at hk; exact hk
    · exact fun z => by have hk := kk ar har; rw [p2 (decide_eq_false z)] at hk; exact hk
  next => cases h
theorem mi_p_icmp_ge (hexec : p.tables.exec = Jvm.exec) (hb : c.code = cc) {off : Int} (hd : decode cc pc = .ok (.if_icmp .ge off, len)) (hlen : mi_len (.if_icmp .ge off) len = true) {pc1 : Nat} {ls1 : mi_L} {st1 : List Value} (h : mi_pure (.if_icmp .ge off) pc nL ls st = some (pc1, ls1, st1)) (har : lv_has ar nL (mi_ls ad ls)) (kk : ∀ ar1 : Array Slot, lv_has ar1 nL (mi_ls ad ls1) → W p l e R s m args below meth c H locs cells slots Q (F0 m pc1 ar1 (mi_st ad st1))) : W p l e R s m args below meth c H locs cells slots Q (F0 m pc ar (mi_st ad st)) := by
  cases (beq_iff_eq.mp hlen)
  simp only [mi_pure] at h
  split at h
  next y x r =>
    obtain ⟨t, ht, rfl, rfl, p1, p2⟩ := mi_br_ok h
    refine lv_icmp_ge hexec hb hd ht ?_ ?_
    · exact fun z => by have hk := kk ar har; rw [p1 (decide_eq_true z)] at hk; exact hk
    · exact fun z => by have hk := kk ar har; rw [p2 (decide_eq_false z)] at hk; exact hk
  next => cases h
theorem mi_p_if_gt (hexec : p.tables.exec = Jvm.exec) (hb : c.code = cc) {off : Int} (hd : decode cc pc = .ok (.ifCond .gt off, len)) (hlen : mi_len (.ifCond .gt off) len = true) {pc1 : Nat} {ls1 : mi_L} {st1 : List Value} (h : mi_pure (.ifCond .gt off) pc nL ls st = some (pc1, ls1, st1)) (har : lv_has ar nL (mi_ls ad ls)) (kk : ∀ ar1 : Array Slot, lv_has ar1 nL (mi_ls ad ls1) → W p l e R s m args below meth c H locs cells slots Q (F0 m pc1 ar1 (mi_st ad st1))) : W p l e R s m args below meth c H locs cells slots Q (F0 m pc ar (mi_st ad st)) := by
  cases (beq_iff_eq.mp hlen)
  simp only [mi_pure] at h
  split at h
  next x r =>
    obtain ⟨t, ht, rfl, rfl, p1, p2⟩ := mi_br_ok h
    refine lv_if_gt hexec hb hd ht ?_ ?_
    · exact fun z => by have hk := kk ar har; rw [p1 (decide_eq_true z)] at hk; exact hk
    · exact fun z => by have hk := kk ar har; rw [p2 (decide_eq_false z)] at hk; exact hk
  next => cases h
theorem mi_p_icmp_gt (hexec : p.tables.exec = Jvm.exec) (hb : c.code = cc) {off : Int} (hd : decode cc pc = .ok (.if_icmp .gt off, len)) (hlen : mi_len (.if_icmp .gt off) len = true) {pc1 : Nat} {ls1 : mi_L} {st1 : List Value} (h : mi_pure (.if_icmp .gt off) pc nL ls st = some (pc1, ls1, st1)) (har : lv_has ar nL (mi_ls ad ls)) (kk : ∀ ar1 : Array Slot, lv_has ar1 nL (mi_ls ad ls1) → W p l e R s m args below meth c H locs cells slots Q (F0 m pc1 ar1 (mi_st ad st1))) : W p l e R s m args below meth c H locs cells slots Q (F0 m pc ar (mi_st ad st)) := by
  cases (beq_iff_eq.mp hlen)
  simp only [mi_pure] at h
  split at h
  next y x r =>
    obtain ⟨t, ht, rfl, rfl, p1, p2⟩ := mi_br_ok h
    refine lv_icmp_gt hexec hb hd ht ?_ ?_
    · exact fun z => by have hk := kk ar har; rw [p1 (decide_eq_true z)] at hk; exact hk
    · exact fun z => by have hk := kk ar har; rw [p2 (decide_eq_false z)] at hk; exact hk
  next => cases h
theorem mi_p_if_le (hexec : p.tables.exec = Jvm.exec) (hb : c.code = cc) {off : Int} (hd : decode cc pc = .ok (.ifCond .le off, len)) (hlen : mi_len (.ifCond .le off) len = true) {pc1 : Nat} {ls1 : mi_L} {st1 : List Value} (h : mi_pure (.ifCond .le off) pc nL ls st = some (pc1, ls1, st1)) (har : lv_has ar nL (mi_ls ad ls)) (kk : ∀ ar1 : Array Slot, lv_has ar1 nL (mi_ls ad ls1) → W p l e R s m args below meth c H locs cells slots Q (F0 m pc1 ar1 (mi_st ad st1))) : W p l e R s m args below meth c H locs cells slots Q (F0 m pc ar (mi_st ad st)) := by
  cases (beq_iff_eq.mp hlen)
  simp only [mi_pure] at h
  split at h
  next x r =>
    obtain ⟨t, ht, rfl, rfl, p1, p2⟩ := mi_br_ok h
    refine lv_if_le hexec hb hd ht ?_ ?_
    · exact fun z => by have hk := kk ar har; rw [p1 (decide_eq_true z)] at hk; exact hk
    · exact fun z => by have hk := kk ar har; rw [p2 (decide_eq_false z)] at hk; exact hk
  next => cases h
theorem mi_p_icmp_le (hexec : p.tables.exec = Jvm.exec) (hb : c.code = cc) {off : Int} (hd : decode cc pc = .ok (.if_icmp .le off, len)) (hlen : mi_len (.if_icmp .le off) len = true) {pc1 : Nat} {ls1 : mi_L} {st1 : List Value} (h : mi_pure (.if_icmp .le off) pc nL ls st = some (pc1, ls1, st1)) (har : lv_has ar nL (mi_ls ad ls)) (kk : ∀ ar1 : Array Slot, lv_has ar1 nL (mi_ls ad ls1) → W p l e R s m args below meth c H locs cells slots Q (F0 m pc1 ar1 (mi_st ad st1))) : W p l e R s m args below meth c H locs cells slots Q (F0 m pc ar (mi_st ad st)) := by
  cases (beq_iff_eq.mp hlen)
  simp only [mi_pure] at h
  split at h
  next y x r =>
    obtain ⟨t, ht, rfl, rfl, p1, p2⟩ := mi_br_ok h
    refine lv_icmp_le hexec hb hd ht ?_ ?_
    · exact fun z => by have hk := kk ar har; rw [p1 (decide_eq_true z)] at hk; exact hk
    · exact fun z => by have hk := kk ar har; rw [p2 (decide_eq_false z)] at hk; exact hk
  next => cases h
theorem mi_p_goto (hexec : p.tables.exec = Jvm.exec) (hb : c.code = cc) {off : Int} (hd : decode cc pc = .ok (.goto off, len)) (hlen : mi_len (.goto off) len = true) {pc1 : Nat} {ls1 : mi_L} {st1 : List Value} (h : mi_pure (.goto off) pc nL ls st = some (pc1, ls1, st1)) (har : lv_has ar nL (mi_ls ad ls)) (kk : ∀ ar1 : Array Slot, lv_has ar1 nL (mi_ls ad ls1) → W p l e R s m args below meth c H locs cells slots Q (F0 m pc1 ar1 (mi_st ad st1))) : W p l e R s m args below meth c H locs cells slots Q (F0 m pc ar (mi_st ad st)) := by
  cases (beq_iff_eq.mp hlen)
  simp only [mi_pure] at h
  split at h
  next t ht =>
    cases h
    exact lv_goto hexec hb hd (mi_to_ok ht) (kk ar har)
  next => cases h
theorem mi_p_tableswitch (hexec : p.tables.exec = Jvm.exec) (hb : c.code = cc) {d lo hi : Int} {offs : Array Int} (hd : decode cc pc = .ok (.tableswitch d lo hi offs, len)) (hlen : mi_len (.tableswitch d lo hi offs) len = true) {pc1 : Nat} {ls1 : mi_L} {st1 : List Value} (h : mi_pure (.tableswitch d lo hi offs) pc nL ls st = some (pc1, ls1, st1)) (har : lv_has ar nL (mi_ls ad ls)) (kk : ∀ ar1 : Array Slot, lv_has ar1 nL (mi_ls ad ls1) → W p l e R s m args below meth c H locs cells slots Q (F0 m pc1 ar1 (mi_st ad st1))) : W p l e R s m args below meth c H locs cells slots Q (F0 m pc ar (mi_st ad st)) := by
  simp only [mi_pure] at h
  split at h
  next x r =>
    split at h
    next hx =>
      split at h
      next t ht =>
        cases h
        exact lv_tableOut hexec hb hd (of_decide_eq_true hx) (mi_to_ok ht) (kk ar har)
      next => cases h
    next hx =>
      split at h
      next off ho =>
        split at h
        next t ht =>
          cases h
          have hn := of_decide_eq_false hx
          exact lv_tableIn hexec hb hd (fun z => hn (Or.inl z)) (fun z => hn (Or.inr z)) ho (mi_to_ok ht) (kk ar har)
        next => cases h
      next => cases h
  next => cases h
theorem mi_p_lookupswitch (hexec : p.tables.exec = Jvm.exec) (hb : c.code = cc) {d : Int} {ps : Array (Int × Int)} (hd : decode cc pc = .ok (.lookupswitch d ps, len)) (hlen : mi_len (.lookupswitch d ps) len = true) {pc1 : Nat} {ls1 : mi_L} {st1 : List Value} (h : mi_pure (.lookupswitch d ps) pc nL ls st = some (pc1, ls1, st1)) (har : lv_has ar nL (mi_ls ad ls)) (kk : ∀ ar1 : Array Slot, lv_has ar1 nL (mi_ls ad ls1) → W p l e R s m args below meth c H locs cells slots Q (F0 m pc1 ar1 (mi_st ad st1))) : W p l e R s m args below meth c H locs cells slots Q (F0 m pc ar (mi_st ad st)) := by
  simp only [mi_pure] at h
  split at h
  next x r =>
    split at h
    next t ht =>
      cases h
      exact lv_lookup hexec hb hd hlen rfl (mi_to_ok ht) (kk ar har)
    next => cases h
  next => cases h
theorem mi_pure_ok (hexec : p.tables.exec = Jvm.exec) (hb : c.code = cc) {ins : Instr} (hd : decode cc pc = .ok (ins, len)) (hlen : mi_len ins len = true) {pc1 : Nat} {ls1 : mi_L} {st1 : List Value} (h : mi_pure ins pc nL ls st = some (pc1, ls1, st1)) (har : lv_has ar nL (mi_ls ad ls)) (kk : ∀ ar1 : Array Slot, lv_has ar1 nL (mi_ls ad ls1) → W p l e R s m args below meth c H locs cells slots Q (F0 m pc1 ar1 (mi_st ad st1))) : W p l e R s m args below meth c H locs cells slots Q (F0 m pc ar (mi_st ad st)) := by
  cases ins with
  | iconst _ => exact mi_p_iconst hexec hb hd hlen h har kk
  | bipush _ => exact mi_p_bipush hexec hb hd hlen h har kk
  | sipush _ => exact mi_p_sipush hexec hb hd hlen h har kk
  | lconst _ => exact mi_p_lconst hexec hb hd hlen h har kk
  | iload_n _ => exact mi_p_iload_n hexec hb hd hlen h har kk
  | lload_n _ => exact mi_p_lload_n hexec hb hd hlen h har kk
  | aload_n _ => exact mi_p_aload_n hexec hb hd hlen h har kk
  | iload _ => exact mi_p_iload hexec hb hd hlen h har kk
  | lload _ => exact mi_p_lload hexec hb hd hlen h har kk
  | aload _ => exact mi_p_aload hexec hb hd hlen h har kk
  | istore_n _ => exact mi_p_istore_n hexec hb hd hlen h har kk
  | lstore_n _ => exact mi_p_lstore_n hexec hb hd hlen h har kk
  | astore_n _ => exact mi_p_astore_n hexec hb hd hlen h har kk
  | istore _ => exact mi_p_istore hexec hb hd hlen h har kk
  | lstore _ => exact mi_p_lstore hexec hb hd hlen h har kk
  | astore _ => exact mi_p_astore hexec hb hd hlen h har kk
  | iinc _ _ => exact mi_p_iinc hexec hb hd hlen h har kk
  | iadd => exact mi_p_iadd hexec hb hd hlen h har kk
  | isub => exact mi_p_isub hexec hb hd hlen h har kk
  | imul => exact mi_p_imul hexec hb hd hlen h har kk
  | iand => exact mi_p_iand hexec hb hd hlen h har kk
  | ior => exact mi_p_ior hexec hb hd hlen h har kk
  | ixor => exact mi_p_ixor hexec hb hd hlen h har kk
  | ishl => exact mi_p_ishl hexec hb hd hlen h har kk
  | ishr => exact mi_p_ishr hexec hb hd hlen h har kk
  | iushr => exact mi_p_iushr hexec hb hd hlen h har kk
  | idiv => exact mi_p_idiv hexec hb hd hlen h har kk
  | irem => exact mi_p_irem hexec hb hd hlen h har kk
  | ladd => exact mi_p_ladd hexec hb hd hlen h har kk
  | lmul => exact mi_p_lmul hexec hb hd hlen h har kk
  | land => exact mi_p_land hexec hb hd hlen h har kk
  | lor => exact mi_p_lor hexec hb hd hlen h har kk
  | lshl => exact mi_p_lshl hexec hb hd hlen h har kk
  | lcmp => exact mi_p_lcmp hexec hb hd hlen h har kk
  | ineg => exact mi_p_ineg hexec hb hd hlen h har kk
  | i2l => exact mi_p_i2l hexec hb hd hlen h har kk
  | l2i => exact mi_p_l2i hexec hb hd hlen h har kk
  | i2b => exact mi_p_i2b hexec hb hd hlen h har kk
  | i2s => exact mi_p_i2s hexec hb hd hlen h har kk
  | i2c => exact mi_p_i2c hexec hb hd hlen h har kk
  | dup => exact mi_p_dup hexec hb hd hlen h har kk
  | pop => exact mi_p_pop hexec hb hd hlen h har kk
  | pop2 => exact mi_p_pop2 hexec hb hd hlen h har kk
  | dup_x1 => exact mi_p_dup_x1 hexec hb hd hlen h har kk
  | dup2 => exact mi_p_dup2 hexec hb hd hlen h har kk
  | goto _ => exact mi_p_goto hexec hb hd hlen h har kk
  | tableswitch _ _ _ _ => exact mi_p_tableswitch hexec hb hd hlen h har kk
  | lookupswitch _ _ => exact mi_p_lookupswitch hexec hb hd hlen h har kk
  | ifCond cd off => cases cd with
    | eq => exact mi_p_if_eq hexec hb hd hlen h har kk
    | ne => exact mi_p_if_ne hexec hb hd hlen h har kk
    | lt => exact mi_p_if_lt hexec hb hd hlen h har kk
    | ge => exact mi_p_if_ge hexec hb hd hlen h har kk
    | gt => exact mi_p_if_gt hexec hb hd hlen h har kk
    | le => exact mi_p_if_le hexec hb hd hlen h har kk
  | if_icmp cd off => cases cd with
    | eq => exact mi_p_icmp_eq hexec hb hd hlen h har kk
    | ne => exact mi_p_icmp_ne hexec hb hd hlen h har kk
    | lt => exact mi_p_icmp_lt hexec hb hd hlen h har kk
    | ge => exact mi_p_icmp_ge hexec hb hd hlen h har kk
    | gt => exact mi_p_icmp_gt hexec hb hd hlen h har kk
    | le => exact mi_p_icmp_le hexec hb hd hlen h har kk
  | _ => simp [mi_pure] at h
end MI
end
section
-- ===== PART A: goes FIRST, ahead of the names: the tables' words, and 'selects' of the private methods out of them =====
/-- a private method of a class that the tables say can be made, by its rows of tables_1 -/
noncomputable def lw_okq (q : MethodName × Nat) : Prop := (q.1.cls ≠ "java/lang/invoke/MethodHandle" ∧ q.1.cls ≠ "java/lang/invoke/VarHandle") ∧ Cond.instantiable q.1.cls q.2 ∈ tables_1 ∧ Cond.privateMethod q.1 ∈ tables_1 ∧ Cond.instanceMethod q.1 ∈ tables_1
noncomputable def lw_ut0 : List Cond := tables_1
noncomputable def lw_ut1 : List Cond := lw_ut0.drop 32
noncomputable def lw_ut2 : List Cond := lw_ut1.drop 32
noncomputable def lw_ut3 : List Cond := lw_ut2.drop 32
noncomputable def lw_ut4 : List Cond := lw_ut3.drop 32
noncomputable def lw_ut5 : List Cond := lw_ut4.drop 32
noncomputable def lw_ut6 : List Cond := lw_ut5.drop 32
noncomputable def lw_ut7 : List Cond := lw_ut6.drop 32
noncomputable def lw_ut8 : List Cond := lw_ut7.drop 32
noncomputable def lw_ut9 : List Cond := lw_ut8.drop 32
noncomputable def lw_ut10 : List Cond := lw_ut9.drop 32
noncomputable def lw_ut11 : List Cond := lw_ut10.drop 32
noncomputable def lw_ut12 : List Cond := lw_ut11.drop 32
noncomputable def lw_ut13 : List Cond := lw_ut12.drop 32
noncomputable def lw_ut14 : List Cond := lw_ut13.drop 32
noncomputable def lw_ut15 : List Cond := lw_ut14.drop 32
noncomputable def lw_ut16 : List Cond := lw_ut15.drop 32
noncomputable def lw_ut17 : List Cond := lw_ut16.drop 32
noncomputable def lw_ut18 : List Cond := lw_ut17.drop 32
noncomputable def lw_ut19 : List Cond := lw_ut18.drop 32
noncomputable def lw_ut20 : List Cond := lw_ut19.drop 32
noncomputable def lw_ut21 : List Cond := lw_ut20.drop 32
noncomputable def lw_ut22 : List Cond := lw_ut21.drop 32
noncomputable def lw_ut23 : List Cond := lw_ut22.drop 32
noncomputable def lw_ut24 : List Cond := lw_ut23.drop 32
noncomputable def lw_ut25 : List Cond := lw_ut24.drop 32
noncomputable def lw_ut26 : List Cond := lw_ut25.drop 32
noncomputable def lw_ut27 : List Cond := lw_ut26.drop 32
noncomputable def lw_ut28 : List Cond := lw_ut27.drop 32
noncomputable def lw_ut29 : List Cond := lw_ut28.drop 32
noncomputable def lw_ut30 : List Cond := lw_ut29.drop 32
noncomputable def lw_ut31 : List Cond := lw_ut30.drop 32
noncomputable def lw_ut32 : List Cond := lw_ut31.drop 32
noncomputable def lw_ut33 : List Cond := lw_ut32.drop 32
noncomputable def lw_ut34 : List Cond := lw_ut33.drop 32
noncomputable def lw_ut35 : List Cond := lw_ut34.drop 32
noncomputable def lw_ut36 : List Cond := lw_ut35.drop 32
noncomputable def lw_ut37 : List Cond := lw_ut36.drop 32
noncomputable def lw_ut38 : List Cond := lw_ut37.drop 32
noncomputable def lw_ut39 : List Cond := lw_ut38.drop 32
noncomputable def lw_ut40 : List Cond := lw_ut39.drop 32
noncomputable def lw_ut41 : List Cond := lw_ut40.drop 32
noncomputable def lw_ut42 : List Cond := lw_ut41.drop 32
noncomputable def lw_ut43 : List Cond := lw_ut42.drop 32
noncomputable def lw_ut44 : List Cond := lw_ut43.drop 32
noncomputable def lw_ut45 : List Cond := lw_ut44.drop 32
noncomputable def lw_ut46 : List Cond := lw_ut45.drop 32
noncomputable def lw_ut47 : List Cond := lw_ut46.drop 32
noncomputable def lw_ut48 : List Cond := lw_ut47.drop 32
noncomputable def lw_ut49 : List Cond := lw_ut48.drop 32
noncomputable def lw_ut50 : List Cond := lw_ut49.drop 32
noncomputable def lw_ut51 : List Cond := lw_ut50.drop 32
noncomputable def lw_uk (k : Nat) : List Cond := (cond (Nat.blt k 26) (cond (Nat.blt k 13) (cond (Nat.blt k 6) (cond (Nat.blt k 3) (cond (Nat.blt k 1) lw_ut0 (cond (Nat.blt k 2) lw_ut1 lw_ut2)) (cond (Nat.blt k 4) lw_ut3 (cond (Nat.blt k 5) lw_ut4 lw_ut5))) (cond (Nat.blt k 9) (cond (Nat.blt k 7) lw_ut6 (cond (Nat.blt k 8) lw_ut7 lw_ut8)) (cond (Nat.blt k 11) (cond (Nat.blt k 10) lw_ut9 lw_ut10) (cond (Nat.blt k 12) lw_ut11 lw_ut12)))) (cond (Nat.blt k 19) (cond (Nat.blt k 16) (cond (Nat.blt k 14) lw_ut13 (cond (Nat.blt k 15) lw_ut14 lw_ut15)) (cond (Nat.blt k 17) lw_ut16 (cond (Nat.blt k 18) lw_ut17 lw_ut18))) (cond (Nat.blt k 22) (cond (Nat.blt k 20) lw_ut19 (cond (Nat.blt k 21) lw_ut20 lw_ut21)) (cond (Nat.blt k 24) (cond (Nat.blt k 23) lw_ut22 lw_ut23) (cond (Nat.blt k 25) lw_ut24 lw_ut25))))) (cond (Nat.blt k 39) (cond (Nat.blt k 32) (cond (Nat.blt k 29) (cond (Nat.blt k 27) lw_ut26 (cond (Nat.blt k 28) lw_ut27 lw_ut28)) (cond (Nat.blt k 30) lw_ut29 (cond (Nat.blt k 31) lw_ut30 lw_ut31))) (cond (Nat.blt k 35) (cond (Nat.blt k 33) lw_ut32 (cond (Nat.blt k 34) lw_ut33 lw_ut34)) (cond (Nat.blt k 37) (cond (Nat.blt k 36) lw_ut35 lw_ut36) (cond (Nat.blt k 38) lw_ut37 lw_ut38)))) (cond (Nat.blt k 45) (cond (Nat.blt k 42) (cond (Nat.blt k 40) lw_ut39 (cond (Nat.blt k 41) lw_ut40 lw_ut41)) (cond (Nat.blt k 43) lw_ut42 (cond (Nat.blt k 44) lw_ut43 lw_ut44))) (cond (Nat.blt k 48) (cond (Nat.blt k 46) lw_ut45 (cond (Nat.blt k 47) lw_ut46 lw_ut47)) (cond (Nat.blt k 50) (cond (Nat.blt k 49) lw_ut48 lw_ut49) (cond (Nat.blt k 51) lw_ut50 lw_ut51))))))
noncomputable def lw_ua (w : Nat) : Option Cond := (lw_uk (w / 32))[w % 32]?
theorem lw_uin0 {q : Cond} (h : q ∈ lw_ut0) : q ∈ tables_1 := h
theorem lw_uin1 {q : Cond} (h : q ∈ lw_ut1) : q ∈ tables_1 := lw_uin0 (List.mem_of_mem_drop h)
theorem lw_uin2 {q : Cond} (h : q ∈ lw_ut2) : q ∈ tables_1 := lw_uin1 (List.mem_of_mem_drop h)
theorem lw_uin3 {q : Cond} (h : q ∈ lw_ut3) : q ∈ tables_1 := lw_uin2 (List.mem_of_mem_drop h)
theorem lw_uin4 {q : Cond} (h : q ∈ lw_ut4) : q ∈ tables_1 := lw_uin3 (List.mem_of_mem_drop h)
theorem lw_uin5 {q : Cond} (h : q ∈ lw_ut5) : q ∈ tables_1 := lw_uin4 (List.mem_of_mem_drop h)
theorem lw_uin6 {q : Cond} (h : q ∈ lw_ut6) : q ∈ tables_1 := lw_uin5 (List.mem_of_mem_drop h)
theorem lw_uin7 {q : Cond} (h : q ∈ lw_ut7) : q ∈ tables_1 := lw_uin6 (List.mem_of_mem_drop h)
theorem lw_uin8 {q : Cond} (h : q ∈ lw_ut8) : q ∈ tables_1 := lw_uin7 (List.mem_of_mem_drop h)
theorem lw_uin9 {q : Cond} (h : q ∈ lw_ut9) : q ∈ tables_1 := lw_uin8 (List.mem_of_mem_drop h)
theorem lw_uin10 {q : Cond} (h : q ∈ lw_ut10) : q ∈ tables_1 := lw_uin9 (List.mem_of_mem_drop h)
theorem lw_uin11 {q : Cond} (h : q ∈ lw_ut11) : q ∈ tables_1 := lw_uin10 (List.mem_of_mem_drop h)
theorem lw_uin12 {q : Cond} (h : q ∈ lw_ut12) : q ∈ tables_1 := lw_uin11 (List.mem_of_mem_drop h)
theorem lw_uin13 {q : Cond} (h : q ∈ lw_ut13) : q ∈ tables_1 := lw_uin12 (List.mem_of_mem_drop h)
theorem lw_uin14 {q : Cond} (h : q ∈ lw_ut14) : q ∈ tables_1 := lw_uin13 (List.mem_of_mem_drop h)
theorem lw_uin15 {q : Cond} (h : q ∈ lw_ut15) : q ∈ tables_1 := lw_uin14 (List.mem_of_mem_drop h)
theorem lw_uin16 {q : Cond} (h : q ∈ lw_ut16) : q ∈ tables_1 := lw_uin15 (List.mem_of_mem_drop h)
theorem lw_uin17 {q : Cond} (h : q ∈ lw_ut17) : q ∈ tables_1 := lw_uin16 (List.mem_of_mem_drop h)
theorem lw_uin18 {q : Cond} (h : q ∈ lw_ut18) : q ∈ tables_1 := lw_uin17 (List.mem_of_mem_drop h)
theorem lw_uin19 {q : Cond} (h : q ∈ lw_ut19) : q ∈ tables_1 := lw_uin18 (List.mem_of_mem_drop h)
theorem lw_uin20 {q : Cond} (h : q ∈ lw_ut20) : q ∈ tables_1 := lw_uin19 (List.mem_of_mem_drop h)
theorem lw_uin21 {q : Cond} (h : q ∈ lw_ut21) : q ∈ tables_1 := lw_uin20 (List.mem_of_mem_drop h)
theorem lw_uin22 {q : Cond} (h : q ∈ lw_ut22) : q ∈ tables_1 := lw_uin21 (List.mem_of_mem_drop h)
theorem lw_uin23 {q : Cond} (h : q ∈ lw_ut23) : q ∈ tables_1 := lw_uin22 (List.mem_of_mem_drop h)
theorem lw_uin24 {q : Cond} (h : q ∈ lw_ut24) : q ∈ tables_1 := lw_uin23 (List.mem_of_mem_drop h)
theorem lw_uin25 {q : Cond} (h : q ∈ lw_ut25) : q ∈ tables_1 := lw_uin24 (List.mem_of_mem_drop h)
theorem lw_uin26 {q : Cond} (h : q ∈ lw_ut26) : q ∈ tables_1 := lw_uin25 (List.mem_of_mem_drop h)
theorem lw_uin27 {q : Cond} (h : q ∈ lw_ut27) : q ∈ tables_1 := lw_uin26 (List.mem_of_mem_drop h)
theorem lw_uin28 {q : Cond} (h : q ∈ lw_ut28) : q ∈ tables_1 := lw_uin27 (List.mem_of_mem_drop h)
theorem lw_uin29 {q : Cond} (h : q ∈ lw_ut29) : q ∈ tables_1 := lw_uin28 (List.mem_of_mem_drop h)
theorem lw_uin30 {q : Cond} (h : q ∈ lw_ut30) : q ∈ tables_1 := lw_uin29 (List.mem_of_mem_drop h)
theorem lw_uin31 {q : Cond} (h : q ∈ lw_ut31) : q ∈ tables_1 := lw_uin30 (List.mem_of_mem_drop h)
theorem lw_uin32 {q : Cond} (h : q ∈ lw_ut32) : q ∈ tables_1 := lw_uin31 (List.mem_of_mem_drop h)
theorem lw_uin33 {q : Cond} (h : q ∈ lw_ut33) : q ∈ tables_1 := lw_uin32 (List.mem_of_mem_drop h)
theorem lw_uin34 {q : Cond} (h : q ∈ lw_ut34) : q ∈ tables_1 := lw_uin33 (List.mem_of_mem_drop h)
theorem lw_uin35 {q : Cond} (h : q ∈ lw_ut35) : q ∈ tables_1 := lw_uin34 (List.mem_of_mem_drop h)
theorem lw_uin36 {q : Cond} (h : q ∈ lw_ut36) : q ∈ tables_1 := lw_uin35 (List.mem_of_mem_drop h)
theorem lw_uin37 {q : Cond} (h : q ∈ lw_ut37) : q ∈ tables_1 := lw_uin36 (List.mem_of_mem_drop h)
theorem lw_uin38 {q : Cond} (h : q ∈ lw_ut38) : q ∈ tables_1 := lw_uin37 (List.mem_of_mem_drop h)
theorem lw_uin39 {q : Cond} (h : q ∈ lw_ut39) : q ∈ tables_1 := lw_uin38 (List.mem_of_mem_drop h)
theorem lw_uin40 {q : Cond} (h : q ∈ lw_ut40) : q ∈ tables_1 := lw_uin39 (List.mem_of_mem_drop h)
theorem lw_uin41 {q : Cond} (h : q ∈ lw_ut41) : q ∈ tables_1 := lw_uin40 (List.mem_of_mem_drop h)
theorem lw_uin42 {q : Cond} (h : q ∈ lw_ut42) : q ∈ tables_1 := lw_uin41 (List.mem_of_mem_drop h)
theorem lw_uin43 {q : Cond} (h : q ∈ lw_ut43) : q ∈ tables_1 := lw_uin42 (List.mem_of_mem_drop h)
theorem lw_uin44 {q : Cond} (h : q ∈ lw_ut44) : q ∈ tables_1 := lw_uin43 (List.mem_of_mem_drop h)
theorem lw_uin45 {q : Cond} (h : q ∈ lw_ut45) : q ∈ tables_1 := lw_uin44 (List.mem_of_mem_drop h)
theorem lw_uin46 {q : Cond} (h : q ∈ lw_ut46) : q ∈ tables_1 := lw_uin45 (List.mem_of_mem_drop h)
theorem lw_uin47 {q : Cond} (h : q ∈ lw_ut47) : q ∈ tables_1 := lw_uin46 (List.mem_of_mem_drop h)
theorem lw_uin48 {q : Cond} (h : q ∈ lw_ut48) : q ∈ tables_1 := lw_uin47 (List.mem_of_mem_drop h)
theorem lw_uin49 {q : Cond} (h : q ∈ lw_ut49) : q ∈ tables_1 := lw_uin48 (List.mem_of_mem_drop h)
theorem lw_uin50 {q : Cond} (h : q ∈ lw_ut50) : q ∈ tables_1 := lw_uin49 (List.mem_of_mem_drop h)
theorem lw_uin51 {q : Cond} (h : q ∈ lw_ut51) : q ∈ tables_1 := lw_uin50 (List.mem_of_mem_drop h)
theorem lw_ubr {q : Cond} {b : Bool} {A B : List Cond} (hA : q ∈ A → q ∈ tables_1) (hB : q ∈ B → q ∈ tables_1) (h : q ∈ cond b A B) : q ∈ tables_1 := by
  cases b
  · exact hB h
  · exact hA h
theorem lw_uk_in {k : Nat} {q : Cond} (h : q ∈ lw_uk k) : q ∈ tables_1 := (lw_ubr (lw_ubr (lw_ubr (lw_ubr (lw_ubr lw_uin0 (lw_ubr lw_uin1 lw_uin2)) (lw_ubr lw_uin3 (lw_ubr lw_uin4 lw_uin5))) (lw_ubr (lw_ubr lw_uin6 (lw_ubr lw_uin7 lw_uin8)) (lw_ubr (lw_ubr lw_uin9 lw_uin10) (lw_ubr lw_uin11 lw_uin12)))) (lw_ubr (lw_ubr (lw_ubr lw_uin13 (lw_ubr lw_uin14 lw_uin15)) (lw_ubr lw_uin16 (lw_ubr lw_uin17 lw_uin18))) (lw_ubr (lw_ubr lw_uin19 (lw_ubr lw_uin20 lw_uin21)) (lw_ubr (lw_ubr lw_uin22 lw_uin23) (lw_ubr lw_uin24 lw_uin25))))) (lw_ubr (lw_ubr (lw_ubr (lw_ubr lw_uin26 (lw_ubr lw_uin27 lw_uin28)) (lw_ubr lw_uin29 (lw_ubr lw_uin30 lw_uin31))) (lw_ubr (lw_ubr lw_uin32 (lw_ubr lw_uin33 lw_uin34)) (lw_ubr (lw_ubr lw_uin35 lw_uin36) (lw_ubr lw_uin37 lw_uin38)))) (lw_ubr (lw_ubr (lw_ubr lw_uin39 (lw_ubr lw_uin40 lw_uin41)) (lw_ubr lw_uin42 (lw_ubr lw_uin43 lw_uin44))) (lw_ubr (lw_ubr lw_uin45 (lw_ubr lw_uin46 lw_uin47)) (lw_ubr (lw_ubr lw_uin48 lw_uin49) (lw_ubr lw_uin50 lw_uin51)))))) h
theorem lw_ua_in {w : Nat} {q : Cond} (h : lw_ua w = some q) : q ∈ tables_1 := lw_uk_in (List.mem_of_getElem? h)
noncomputable def lw_okB (e : (MethodName × Nat) × Nat × Nat × Nat) : Bool := decide (e.1.1.cls ≠ "java/lang/invoke/MethodHandle") && (decide (e.1.1.cls ≠ "java/lang/invoke/VarHandle") && (decide (lw_ua e.2.1 = some (.instantiable e.1.1.cls e.1.2)) && (decide (lw_ua e.2.2.1 = some (.privateMethod e.1.1)) && decide (lw_ua e.2.2.2 = some (.instanceMethod e.1.1)))))
theorem lw_okB_ok {e : (MethodName × Nat) × Nat × Nat × Nat} (h : lw_okB e = true) : lw_okq e.1 := by
  obtain ⟨h1, h⟩ := Bool.and_eq_true_iff.mp h
  obtain ⟨h2, h⟩ := Bool.and_eq_true_iff.mp h
  obtain ⟨h3, h⟩ := Bool.and_eq_true_iff.mp h
  obtain ⟨h4, h5⟩ := Bool.and_eq_true_iff.mp h
  exact ⟨⟨of_decide_eq_true h1, of_decide_eq_true h2⟩, lw_ua_in (of_decide_eq_true h3), lw_ua_in (of_decide_eq_true h4), lw_ua_in (of_decide_eq_true h5)⟩
noncomputable def lw_privs_1 : List (MethodName × Nat) := [(⟨"ThirdAfter", "addFromThree", "(LThirdAfter$Shelf;I)Z"⟩, 8), (⟨"ThirdAfter", "isTold", "(II)Z"⟩, 8), (⟨"ThirdAfter", "isBuyer", "(I)Z"⟩, 8), (⟨"ThirdAfter$Market", "column", "(I)[I"⟩, 18), (⟨"ThirdAfter$Changes", "forgetOldest", "()V"⟩, 6), (⟨"ThirdAfter$Tape", "readLine", "()V"⟩, 5), (⟨"ThirdAfter$Tape", "readEither", "(I)V"⟩, 5), (⟨"ThirdAfter$Tape", "readBoth", "(I)V"⟩, 5), (⟨"ThirdAfter$Tape", "readCompared", "(I)V"⟩, 5), (⟨"ThirdAfter$Tape", "readSum", "(I)V"⟩, 5), (⟨"ThirdAfter$Tape", "readProduct", "(I)V"⟩, 5), (⟨"ThirdAfter$Tape", "readPart", "(I)V"⟩, 5), (⟨"ThirdAfter$Tape", "here", "()I"⟩, 5), (⟨"ThirdAfter$Tape", "readNumber", "()V"⟩, 5), (⟨"ThirdAfter$Tape", "takeOf", "(Ljava/lang/String;)I"⟩, 5), (⟨"ThirdAfter$Tape", "take", "(I)Z"⟩, 5)]
noncomputable def lw_e1 : List ((MethodName × Nat) × Nat × Nat × Nat) := [((⟨"ThirdAfter", "addFromThree", "(LThirdAfter$Shelf;I)Z"⟩, 8), 20, 379, 380), ((⟨"ThirdAfter", "isTold", "(II)Z"⟩, 8), 20, 387, 388), ((⟨"ThirdAfter", "isBuyer", "(I)Z"⟩, 8), 20, 391, 392), ((⟨"ThirdAfter$Market", "column", "(I)[I"⟩, 18), 28, 404, 405), ((⟨"ThirdAfter$Changes", "forgetOldest", "()V"⟩, 6), 215, 416, 417), ((⟨"ThirdAfter$Tape", "readLine", "()V"⟩, 5), 271, 447, 448), ((⟨"ThirdAfter$Tape", "readEither", "(I)V"⟩, 5), 271, 451, 452), ((⟨"ThirdAfter$Tape", "readBoth", "(I)V"⟩, 5), 271, 455, 456), ((⟨"ThirdAfter$Tape", "readCompared", "(I)V"⟩, 5), 271, 459, 460), ((⟨"ThirdAfter$Tape", "readSum", "(I)V"⟩, 5), 271, 463, 464), ((⟨"ThirdAfter$Tape", "readProduct", "(I)V"⟩, 5), 271, 467, 468), ((⟨"ThirdAfter$Tape", "readPart", "(I)V"⟩, 5), 271, 471, 472), ((⟨"ThirdAfter$Tape", "here", "()I"⟩, 5), 271, 475, 476), ((⟨"ThirdAfter$Tape", "readNumber", "()V"⟩, 5), 271, 482, 483), ((⟨"ThirdAfter$Tape", "takeOf", "(Ljava/lang/String;)I"⟩, 5), 271, 491, 492), ((⟨"ThirdAfter$Tape", "take", "(I)Z"⟩, 5), 271, 573, 574)]
theorem lw_z1 : (lw_e1.all lw_okB) = true := by decide +kernel
theorem lw_r1 : ∀ q ∈ lw_privs_1, lw_okq q := by
  intro q hq
  obtain ⟨e, he, rfl⟩ := List.mem_map.mp (show q ∈ lw_e1.map (fun e => e.1) from hq)
  exact lw_okB_ok (List.all_eq_true.mp lw_z1 e he)
noncomputable def lw_privs_2 : List (MethodName × Nat) := [(⟨"ThirdAfter", "plan", "(I)I"⟩, 8), (⟨"ThirdAfter", "refusalOfBytes", "(I)I"⟩, 8), (⟨"ThirdAfter$Thought", "run", "()V"⟩, 10), (⟨"ThirdAfter$Market", "payOldestTo", "(I)V"⟩, 18), (⟨"ThirdAfter$Market", "buysFor", "(II)I"⟩, 18), (⟨"ThirdAfter$Law", "push", "(I)V"⟩, 6), (⟨"ThirdAfter$Law", "pop", "()I"⟩, 6), (⟨"ThirdAfter$Thought", "insert", "(II)V"⟩, 10), (⟨"ThirdAfter$Thought", "purseBehind", "(LThirdAfter$Market;I)I"⟩, 10), (⟨"ThirdAfter$Thought", "swap", "(II)V"⟩, 10), (⟨"ThirdAfter$Thought", "goToNextOrder", "()Z"⟩, 10), (⟨"ThirdAfter", "isPair", "(I)Z"⟩, 8), (⟨"ThirdAfter$Latches", "run", "(IIIII)I"⟩, 4), (⟨"ThirdAfter$Latches", "runTopmost", "(IIII)I"⟩, 4), (⟨"ThirdAfter", "refusalOfCell", "(II)I"⟩, 8), (⟨"ThirdAfterModel", "newBuyer", "(III)I"⟩, 54)]
noncomputable def lw_e2 : List ((MethodName × Nat) × Nat × Nat × Nat) := [((⟨"ThirdAfter", "plan", "(I)I"⟩, 8), 20, 596, 597), ((⟨"ThirdAfter", "refusalOfBytes", "(I)I"⟩, 8), 20, 600, 601), ((⟨"ThirdAfter$Thought", "run", "()V"⟩, 10), 167, 628, 629), ((⟨"ThirdAfter$Market", "payOldestTo", "(I)V"⟩, 18), 28, 636, 637), ((⟨"ThirdAfter$Market", "buysFor", "(II)I"⟩, 18), 28, 644, 645), ((⟨"ThirdAfter$Law", "push", "(I)V"⟩, 6), 57, 652, 653), ((⟨"ThirdAfter$Law", "pop", "()I"⟩, 6), 57, 656, 657), ((⟨"ThirdAfter$Thought", "insert", "(II)V"⟩, 10), 167, 696, 697), ((⟨"ThirdAfter$Thought", "purseBehind", "(LThirdAfter$Market;I)I"⟩, 10), 167, 701, 702), ((⟨"ThirdAfter$Thought", "swap", "(II)V"⟩, 10), 167, 706, 707), ((⟨"ThirdAfter$Thought", "goToNextOrder", "()Z"⟩, 10), 167, 740, 741), ((⟨"ThirdAfter", "isPair", "(I)Z"⟩, 8), 20, 748, 749), ((⟨"ThirdAfter$Latches", "run", "(IIIII)I"⟩, 4), 246, 876, 877), ((⟨"ThirdAfter$Latches", "runTopmost", "(IIII)I"⟩, 4), 246, 887, 888), ((⟨"ThirdAfter", "refusalOfCell", "(II)I"⟩, 8), 20, 918, 919), ((⟨"ThirdAfterModel", "newBuyer", "(III)I"⟩, 54), 951, 1127, 1128)]
theorem lw_z2 : (lw_e2.all lw_okB) = true := by decide +kernel
theorem lw_r2 : ∀ q ∈ lw_privs_2, lw_okq q := by
  intro q hq
  obtain ⟨e, he, rfl⟩ := List.mem_map.mp (show q ∈ lw_e2.map (fun e => e.1) from hq)
  exact lw_okB_ok (List.all_eq_true.mp lw_z2 e he)
noncomputable def lw_privs_3 : List (MethodName × Nat) := [(⟨"ThirdAfterModel", "toldAt", "(II)I"⟩, 54), (⟨"ThirdAfterModel", "isOf", "(II)Z"⟩, 54), (⟨"ThirdAfterModel", "isBuyer", "(I)Z"⟩, 54), (⟨"ThirdAfterModel", "get", "(II)I"⟩, 54), (⟨"ThirdAfterModel", "becomes", "(III)V"⟩, 54), (⟨"ThirdAfterModel", "isLine", "()Z"⟩, 54), (⟨"ThirdAfterModel", "isE", "()Z"⟩, 54), (⟨"ThirdAfterModel", "isA", "()Z"⟩, 54), (⟨"ThirdAfterModel", "isB", "()Z"⟩, 54), (⟨"ThirdAfterModel", "isS", "()Z"⟩, 54), (⟨"ThirdAfterModel", "isP", "()Z"⟩, 54), (⟨"ThirdAfterModel", "isO", "()Z"⟩, 54), (⟨"ThirdAfterModel", "isDigit", "()Z"⟩, 54), (⟨"ThirdAfterModel", "sign", "()I"⟩, 54), (⟨"ThirdAfterModel", "codes", "(I)Z"⟩, 54), (⟨"ThirdAfterModel", "is", "(I)Z"⟩, 54)]
noncomputable def lw_e3 : List ((MethodName × Nat) × Nat × Nat × Nat) := [((⟨"ThirdAfterModel", "toldAt", "(II)I"⟩, 54), 951, 1139, 1140), ((⟨"ThirdAfterModel", "isOf", "(II)Z"⟩, 54), 951, 1147, 1148), ((⟨"ThirdAfterModel", "isBuyer", "(I)Z"⟩, 54), 951, 1151, 1152), ((⟨"ThirdAfterModel", "get", "(II)I"⟩, 54), 951, 1158, 1159), ((⟨"ThirdAfterModel", "becomes", "(III)V"⟩, 54), 951, 1162, 1163), ((⟨"ThirdAfterModel", "isLine", "()Z"⟩, 54), 951, 1186, 1187), ((⟨"ThirdAfterModel", "isE", "()Z"⟩, 54), 951, 1190, 1191), ((⟨"ThirdAfterModel", "isA", "()Z"⟩, 54), 951, 1194, 1195), ((⟨"ThirdAfterModel", "isB", "()Z"⟩, 54), 951, 1198, 1199), ((⟨"ThirdAfterModel", "isS", "()Z"⟩, 54), 951, 1202, 1203), ((⟨"ThirdAfterModel", "isP", "()Z"⟩, 54), 951, 1206, 1207), ((⟨"ThirdAfterModel", "isO", "()Z"⟩, 54), 951, 1210, 1211), ((⟨"ThirdAfterModel", "isDigit", "()Z"⟩, 54), 951, 1214, 1215), ((⟨"ThirdAfterModel", "sign", "()I"⟩, 54), 951, 1218, 1219), ((⟨"ThirdAfterModel", "codes", "(I)Z"⟩, 54), 951, 1222, 1223), ((⟨"ThirdAfterModel", "is", "(I)Z"⟩, 54), 951, 1229, 1230)]
theorem lw_z3 : (lw_e3.all lw_okB) = true := by decide +kernel
theorem lw_r3 : ∀ q ∈ lw_privs_3, lw_okq q := by
  intro q hq
  obtain ⟨e, he, rfl⟩ := List.mem_map.mp (show q ∈ lw_e3.map (fun e => e.1) from hq)
  exact lw_okB_ok (List.all_eq_true.mp lw_z3 e he)
noncomputable def lw_privs_4 : List (MethodName × Nat) := [(⟨"ThirdAfterModel", "noBytes", "(I)I"⟩, 54), (⟨"ThirdAfterModel", "reads", "(I)V"⟩, 54), (⟨"ThirdAfterModel", "begins", "()V"⟩, 54), (⟨"ThirdAfterModel", "keeps", "([II)V"⟩, 54), (⟨"ThirdAfterModel", "goes", "()V"⟩, 54), (⟨"ThirdAfterModel", "goesIn", "(I)Z"⟩, 54), (⟨"ThirdAfterModel", "pays", "(I)V"⟩, 54), (⟨"ThirdAfterModel", "buysFor", "(II)I"⟩, 54), (⟨"ThirdAfterModel", "byLaw", "(I)I"⟩, 54), (⟨"ThirdAfterModel", "worked", "(II)I"⟩, 54), (⟨"ThirdAfterModel", "laysBack", "([II)V"⟩, 54), (⟨"ThirdAfterModel", "ends", "()V"⟩, 54), (⟨"ThirdAfterModel", "puts", "(II)V"⟩, 54), (⟨"ThirdAfterModel", "purseBehind", "(I)I"⟩, 54), (⟨"ThirdAfterModel", "takes", "(I)V"⟩, 54), (⟨"ThirdAfterModel", "swaps", "(I)V"⟩, 54)]
noncomputable def lw_e4 : List ((MethodName × Nat) × Nat × Nat × Nat) := [((⟨"ThirdAfterModel", "noBytes", "(I)I"⟩, 54), 951, 1241, 1242), ((⟨"ThirdAfterModel", "reads", "(I)V"⟩, 54), 951, 1245, 1246), ((⟨"ThirdAfterModel", "begins", "()V"⟩, 54), 951, 1249, 1250), ((⟨"ThirdAfterModel", "keeps", "([II)V"⟩, 54), 951, 1253, 1254), ((⟨"ThirdAfterModel", "goes", "()V"⟩, 54), 951, 1257, 1258), ((⟨"ThirdAfterModel", "goesIn", "(I)Z"⟩, 54), 951, 1261, 1262), ((⟨"ThirdAfterModel", "pays", "(I)V"⟩, 54), 951, 1265, 1266), ((⟨"ThirdAfterModel", "buysFor", "(II)I"⟩, 54), 951, 1270, 1271), ((⟨"ThirdAfterModel", "byLaw", "(I)I"⟩, 54), 951, 1274, 1275), ((⟨"ThirdAfterModel", "worked", "(II)I"⟩, 54), 951, 1278, 1279), ((⟨"ThirdAfterModel", "laysBack", "([II)V"⟩, 54), 951, 1286, 1287), ((⟨"ThirdAfterModel", "ends", "()V"⟩, 54), 951, 1298, 1299), ((⟨"ThirdAfterModel", "puts", "(II)V"⟩, 54), 951, 1306, 1307), ((⟨"ThirdAfterModel", "purseBehind", "(I)I"⟩, 54), 951, 1310, 1311), ((⟨"ThirdAfterModel", "takes", "(I)V"⟩, 54), 951, 1314, 1315), ((⟨"ThirdAfterModel", "swaps", "(I)V"⟩, 54), 951, 1326, 1327)]
theorem lw_z4 : (lw_e4.all lw_okB) = true := by decide +kernel
theorem lw_r4 : ∀ q ∈ lw_privs_4, lw_okq q := by
  intro q hq
  obtain ⟨e, he, rfl⟩ := List.mem_map.mp (show q ∈ lw_e4.map (fun e => e.1) from hq)
  exact lw_okB_ok (List.all_eq_true.mp lw_z4 e he)
noncomputable def lw_privs_5 : List (MethodName × Nat) := [(⟨"ThirdAfterModel", "orders", "(III)V"⟩, 54), (⟨"ThirdAfterModel", "isPair", "(I)Z"⟩, 54), (⟨"ThirdAfterModel", "ring", "()I"⟩, 54), (⟨"ThirdAfterModel", "areShelves", "(I)Z"⟩, 54), (⟨"ThirdAfterModel", "noRows", "(I)I"⟩, 54), (⟨"ThirdAfterModel", "unlike", "(I)I"⟩, 54), (⟨"ThirdAfterModel", "thirds", "(I)I"⟩, 54), (⟨"ThirdAfterModel", "whose", "(II)I"⟩, 54), (⟨"ThirdAfterModel", "wanted", "(IIZ)I"⟩, 54), (⟨"ThirdAfterModel", "turnFrom", "(IIII)I"⟩, 54), (⟨"ThirdAfterModel", "comesAt", "(IIII)I"⟩, 54), (⟨"ThirdAfterModel", "comesBy", "(III)I"⟩, 54), (⟨"ThirdAfterModel", "ran", "(I)V"⟩, 54), (⟨"ThirdAfterModel", "owesBy", "(III)I"⟩, 54), (⟨"ThirdAfterModel", "paysBy", "(III)I"⟩, 54), (⟨"ThirdAfterModel", "tells", "(III)I"⟩, 54)]
noncomputable def lw_e5 : List ((MethodName × Nat) × Nat × Nat × Nat) := [((⟨"ThirdAfterModel", "orders", "(III)V"⟩, 54), 951, 1335, 1336), ((⟨"ThirdAfterModel", "isPair", "(I)Z"⟩, 54), 951, 1343, 1344), ((⟨"ThirdAfterModel", "ring", "()I"⟩, 54), 951, 1351, 1352), ((⟨"ThirdAfterModel", "areShelves", "(I)Z"⟩, 54), 951, 1359, 1360), ((⟨"ThirdAfterModel", "noRows", "(I)I"⟩, 54), 951, 1363, 1364), ((⟨"ThirdAfterModel", "unlike", "(I)I"⟩, 54), 951, 1367, 1368), ((⟨"ThirdAfterModel", "thirds", "(I)I"⟩, 54), 951, 1375, 1376), ((⟨"ThirdAfterModel", "whose", "(II)I"⟩, 54), 951, 1379, 1380), ((⟨"ThirdAfterModel", "wanted", "(IIZ)I"⟩, 54), 951, 1383, 1384), ((⟨"ThirdAfterModel", "turnFrom", "(IIII)I"⟩, 54), 951, 1392, 1393), ((⟨"ThirdAfterModel", "comesAt", "(IIII)I"⟩, 54), 951, 1396, 1397), ((⟨"ThirdAfterModel", "comesBy", "(III)I"⟩, 54), 951, 1437, 1438), ((⟨"ThirdAfterModel", "ran", "(I)V"⟩, 54), 951, 1441, 1442), ((⟨"ThirdAfterModel", "owesBy", "(III)I"⟩, 54), 951, 1448, 1449), ((⟨"ThirdAfterModel", "paysBy", "(III)I"⟩, 54), 951, 1452, 1453), ((⟨"ThirdAfterModel", "tells", "(III)I"⟩, 54), 951, 1456, 1457)]
theorem lw_z5 : (lw_e5.all lw_okB) = true := by decide +kernel
theorem lw_r5 : ∀ q ∈ lw_privs_5, lw_okq q := by
  intro q hq
  obtain ⟨e, he, rfl⟩ := List.mem_map.mp (show q ∈ lw_e5.map (fun e => e.1) from hq)
  exact lw_okB_ok (List.all_eq_true.mp lw_z5 e he)
noncomputable def lw_privs_6 : List (MethodName × Nat) := [(⟨"ThirdAfterModel", "isRow", "(I)Z"⟩, 54)]
noncomputable def lw_e6 : List ((MethodName × Nat) × Nat × Nat × Nat) := [((⟨"ThirdAfterModel", "isRow", "(I)Z"⟩, 54), 951, 1476, 1477)]
theorem lw_z6 : (lw_e6.all lw_okB) = true := by decide +kernel
theorem lw_r6 : ∀ q ∈ lw_privs_6, lw_okq q := by
  intro q hq
  obtain ⟨e, he, rfl⟩ := List.mem_map.mp (show q ∈ lw_e6.map (fun e => e.1) from hq)
  exact lw_okB_ok (List.all_eq_true.mp lw_z6 e he)
noncomputable def lw_privs : List (MethodName × Nat) := lw_privs_1 ++ (lw_privs_2 ++ (lw_privs_3 ++ (lw_privs_4 ++ (lw_privs_5 ++ (lw_privs_6)))))
noncomputable def lw_tbl : List Cond := k2_sels lw_privs ++ tables_1
theorem lw_privs_ok : ∀ q ∈ lw_privs, lw_okq q := by
  show ∀ q ∈ lw_privs_1 ++ (lw_privs_2 ++ (lw_privs_3 ++ (lw_privs_4 ++ (lw_privs_5 ++ (lw_privs_6))))), lw_okq q
  exact List.forall_mem_append.mpr ⟨lw_r1, List.forall_mem_append.mpr ⟨lw_r2, List.forall_mem_append.mpr ⟨lw_r3, List.forall_mem_append.mpr ⟨lw_r4, List.forall_mem_append.mpr ⟨lw_r5, lw_r6⟩⟩⟩⟩⟩

/-! ===== BEGIN printed: names, fields, word lists, decode rows ===== -/
noncomputable def RX0 : String := "ThirdAfter$Book"
noncomputable def TX0 : u_T := fun k => match k with
  | 0 => ("ThirdAfter$Book", "who", "[I", true)
  | 1 => ("ThirdAfter$Book", "much", "[I", true)
  | _ => ("ThirdAfter$Book", "open", "I", false)
noncomputable def tyX0 : Nat → FieldType := fun k => match k with
  | 0 => .array .int
  | 1 => .array .int
  | _ => .int
theorem nmX0 : ∀ a, a < 3 → ∀ b, b < 3 → a ≠ b → (TX0 a).2.1 ≠ (TX0 b).2.1 := by decide +kernel
theorem tyX0_ok : ∀ k, k < 3 → parseFieldDescriptor (TX0 k).2.2.1 = some (tyX0 k) := by decide +kernel
noncomputable def yX0_init : MethodName := ⟨RX0, "<init>", "()V"⟩
noncomputable def yX0_add : MethodName := ⟨RX0, "add", "(II)V"⟩
noncomputable def yX0_dropOldest : MethodName := ⟨RX0, "dropOldest", "()V"⟩
noncomputable def yX0_become : MethodName := ⟨RX0, "become", "(LThirdAfter$Book;)V"⟩
noncomputable def RX1 : String := "ThirdAfter$Changes"
noncomputable def TX1 : u_T := fun k => match k with
  | 0 => ("ThirdAfter$Changes", "number", "[I", true)
  | 1 => ("ThirdAfter$Changes", "what", "[I", true)
  | 2 => ("ThirdAfter$Changes", "before", "[I", true)
  | 3 => ("ThirdAfter$Changes", "after", "[I", true)
  | 4 => ("ThirdAfter$Changes", "kept", "I", false)
  | _ => ("ThirdAfter$Changes", "done", "I", false)
noncomputable def tyX1 : Nat → FieldType := fun k => match k with
  | 0 => .array .int
  | 1 => .array .int
  | 2 => .array .int
  | 3 => .array .int
  | 4 => .int
  | _ => .int
theorem nmX1 : ∀ a, a < 6 → ∀ b, b < 6 → a ≠ b → (TX1 a).2.1 ≠ (TX1 b).2.1 := by decide +kernel
theorem tyX1_ok : ∀ k, k < 6 → parseFieldDescriptor (TX1 k).2.2.1 = some (tyX1 k) := by decide +kernel
noncomputable def yX1_init : MethodName := ⟨RX1, "<init>", "()V"⟩
noncomputable def yX1_add : MethodName := ⟨RX1, "add", "(IIII)V"⟩
noncomputable def yX1_forgetOldest : MethodName := ⟨RX1, "forgetOldest", "()V"⟩
noncomputable def RX2 : String := "ThirdAfter$Latches"
noncomputable def TX2 : u_T := fun k => match k with
  | 0 => ("ThirdAfter$Latches", "kinds", "[I", true)
  | 1 => ("ThirdAfter$Latches", "count", "I", false)
  | 2 => ("ThirdAfter$Latches", "trace", "[I", true)
  | _ => ("ThirdAfter$Latches", "ran", "I", false)
noncomputable def tyX2 : Nat → FieldType := fun k => match k with
  | 0 => .array .int
  | 1 => .int
  | 2 => .array .int
  | _ => .int
theorem nmX2 : ∀ a, a < 4 → ∀ b, b < 4 → a ≠ b → (TX2 a).2.1 ≠ (TX2 b).2.1 := by decide +kernel
theorem tyX2_ok : ∀ k, k < 4 → parseFieldDescriptor (TX2 k).2.2.1 = some (tyX2 k) := by decide +kernel
noncomputable def yX2_init : MethodName := ⟨RX2, "<init>", "()V"⟩
noncomputable def yX2_isThere : MethodName := ⟨RX2, "isThere", "(I)Z"⟩
noncomputable def yX2_add : MethodName := ⟨RX2, "add", "(I)I"⟩
noncomputable def yX2_isUnder : MethodName := ⟨RX2, "isUnder", "(II)Z"⟩
noncomputable def yX2_kindWithBody : MethodName := ⟨RX2, "kindWithBody", "(II)I"⟩
noncomputable def yX2_perform : MethodName := ⟨RX2, "perform", "(III)I"⟩
noncomputable def yX2_run : MethodName := ⟨RX2, "run", "(IIIII)I"⟩
noncomputable def yX2_runTopmost : MethodName := ⟨RX2, "runTopmost", "(IIII)I"⟩
noncomputable def RX3 : String := "ThirdAfter$Law"
noncomputable def TX3 : u_T := fun k => match k with
  | 0 => ("ThirdAfter$Law", "told", "Z", false)
  | 1 => ("ThirdAfter$Law", "step", "[I", true)
  | 2 => ("ThirdAfter$Law", "with", "[I", true)
  | 3 => ("ThirdAfter$Law", "length", "I", false)
  | 4 => ("ThirdAfter$Law", "stack", "[I", true)
  | _ => ("ThirdAfter$Law", "height", "I", false)
noncomputable def tyX3 : Nat → FieldType := fun k => match k with
  | 0 => .boolean
  | 1 => .array .int
  | 2 => .array .int
  | 3 => .int
  | 4 => .array .int
  | _ => .int
theorem nmX3 : ∀ a, a < 6 → ∀ b, b < 6 → a ≠ b → (TX3 a).2.1 ≠ (TX3 b).2.1 := by decide +kernel
theorem tyX3_ok : ∀ k, k < 6 → parseFieldDescriptor (TX3 k).2.2.1 = some (tyX3 k) := by decide +kernel
noncomputable def yX3_init : MethodName := ⟨RX3, "<init>", "()V"⟩
noncomputable def yX3_clear : MethodName := ⟨RX3, "clear", "()V"⟩
noncomputable def yX3_add : MethodName := ⟨RX3, "add", "(II)I"⟩
noncomputable def yX3_aimAtNext : MethodName := ⟨RX3, "aimAtNext", "(I)V"⟩
noncomputable def yX3_push : MethodName := ⟨RX3, "push", "(I)V"⟩
noncomputable def yX3_pop : MethodName := ⟨RX3, "pop", "()I"⟩
noncomputable def yX3_value : MethodName := ⟨RX3, "value", "([I)I"⟩
noncomputable def yX3_joined : MethodName := ⟨RX3, "joined", "(III)I"⟩
noncomputable def RX4 : String := "ThirdAfter$Market"
noncomputable def TX4 : u_T := fun k => match k with
  | 0 => ("ThirdAfter$Market", "count", "I", false)
  | 1 => ("ThirdAfter$Market", "purse", "[I", true)
  | 2 => ("ThirdAfter$Market", "wants", "[I", true)
  | 3 => ("ThirdAfter$Market", "haste", "[I", true)
  | 4 => ("ThirdAfter$Market", "dog", "[I", true)
  | 5 => ("ThirdAfter$Market", "often", "[I", true)
  | 6 => ("ThirdAfter$Market", "third", "I", false)
  | 7 => ("ThirdAfter$Market", "dogs", "I", false)
  | 8 => ("ThirdAfter$Market", "day", "I", false)
  | 9 => ("ThirdAfter$Market", "came", "I", false)
  | 10 => ("ThirdAfter$Market", "book", "LThirdAfter$Book;", true)
  | 11 => ("ThirdAfter$Market", "law", "LThirdAfter$Law;", false)
  | 12 => ("ThirdAfter$Market", "led", "[I", true)
  | 13 => ("ThirdAfter$Market", "flow", "[[I", true)
  | 14 => ("ThirdAfter$Market", "payer", "I", false)
  | 15 => ("ThirdAfter$Market", "paid", "I", false)
  | 16 => ("ThirdAfter$Market", "bought", "I", false)
  | _ => ("ThirdAfter$Market", "names", "[I", true)
noncomputable def tyX4 : Nat → FieldType := fun k => match k with
  | 0 => .int
  | 1 => .array .int
  | 2 => .array .int
  | 3 => .array .int
  | 4 => .array .int
  | 5 => .array .int
  | 6 => .int
  | 7 => .int
  | 8 => .int
  | 9 => .int
  | 10 => .object "ThirdAfter$Book"
  | 11 => .object "ThirdAfter$Law"
  | 12 => .array .int
  | 13 => .array (.array .int)
  | 14 => .int
  | 15 => .int
  | 16 => .int
  | _ => .array .int
theorem nmX4 : ∀ a, a < 18 → ∀ b, b < 18 → a ≠ b → (TX4 a).2.1 ≠ (TX4 b).2.1 := by decide +kernel
theorem tyX4_ok : ∀ k, k < 18 → parseFieldDescriptor (TX4 k).2.2.1 = some (tyX4 k) := by decide +kernel
noncomputable def yX4_init : MethodName := ⟨RX4, "<init>", "()V"⟩
noncomputable def yX4_has : MethodName := ⟨RX4, "has", "(I)Z"⟩
noncomputable def yX4_add : MethodName := ⟨RX4, "add", "(III)I"⟩
noncomputable def yX4_column : MethodName := ⟨RX4, "column", "(I)[I"⟩
noncomputable def yX4_number : MethodName := ⟨RX4, "number", "(II)I"⟩
noncomputable def yX4_setNumber : MethodName := ⟨RX4, "setNumber", "(III)V"⟩
noncomputable def yX4_comesIn : MethodName := ⟨RX4, "comesIn", "(I)I"⟩
noncomputable def yX4_payOldestTo : MethodName := ⟨RX4, "payOldestTo", "(I)V"⟩
noncomputable def yX4_buysFor : MethodName := ⟨RX4, "buysFor", "(II)I"⟩
noncomputable def yX4_dusk : MethodName := ⟨RX4, "dusk", "()V"⟩
noncomputable def yX4_takeDeeds : MethodName := ⟨RX4, "takeDeeds", "(LThirdAfter$Market;I)V"⟩
noncomputable def yX4_become : MethodName := ⟨RX4, "become", "(LThirdAfter$Market;)V"⟩
noncomputable def RX5 : String := "ThirdAfter$Shelf"
noncomputable def TX5 : u_T := fun k => match k with
  | 0 => ("ThirdAfter$Shelf", "holds", "I", false)
  | 1 => ("ThirdAfter$Shelf", "body", "I", false)
  | 2 => ("ThirdAfter$Shelf", "sort", "I", false)
  | 3 => ("ThirdAfter$Shelf", "length", "I", false)
  | _ => ("ThirdAfter$Shelf", "cells", "[J", true)
noncomputable def tyX5 : Nat → FieldType := fun k => match k with
  | 0 => .int
  | 1 => .int
  | 2 => .int
  | 3 => .int
  | _ => .array .long
theorem nmX5 : ∀ a, a < 5 → ∀ b, b < 5 → a ≠ b → (TX5 a).2.1 ≠ (TX5 b).2.1 := by decide +kernel
theorem tyX5_ok : ∀ k, k < 5 → parseFieldDescriptor (TX5 k).2.2.1 = some (tyX5 k) := by decide +kernel
noncomputable def yX5_init : MethodName := ⟨RX5, "<init>", "()V"⟩
noncomputable def yX5_isRowOf : MethodName := ⟨RX5, "isRowOf", "(I)Z"⟩
noncomputable def yX5_hasCells : MethodName := ⟨RX5, "hasCells", "(II)Z"⟩
noncomputable def yX5_holdLatch : MethodName := ⟨RX5, "holdLatch", "(I)V"⟩
noncomputable def yX5_holdRow : MethodName := ⟨RX5, "holdRow", "(II)V"⟩
noncomputable def yX5_narrowed : MethodName := ⟨RX5, "narrowed", "(J)J"⟩
noncomputable def RX6 : String := "ThirdAfter$Tape"
noncomputable def TX6 : u_T := fun k => match k with
  | 0 => ("ThirdAfter$Tape", "text", "[I", true)
  | 1 => ("ThirdAfter$Tape", "length", "I", false)
  | 2 => ("ThirdAfter$Tape", "at", "I", false)
  | 3 => ("ThirdAfter$Tape", "faulty", "Z", false)
  | _ => ("ThirdAfter$Tape", "law", "LThirdAfter$Law;", false)
noncomputable def tyX6 : Nat → FieldType := fun k => match k with
  | 0 => .array .int
  | 1 => .int
  | 2 => .int
  | 3 => .boolean
  | _ => .object "ThirdAfter$Law"
theorem nmX6 : ∀ a, a < 5 → ∀ b, b < 5 → a ≠ b → (TX6 a).2.1 ≠ (TX6 b).2.1 := by decide +kernel
theorem tyX6_ok : ∀ k, k < 5 → parseFieldDescriptor (TX6 k).2.2.1 = some (tyX6 k) := by decide +kernel
noncomputable def yX6_init : MethodName := ⟨RX6, "<init>", "()V"⟩
noncomputable def yX6_add : MethodName := ⟨RX6, "add", "(I)I"⟩
noncomputable def yX6_exchange : MethodName := ⟨RX6, "exchange", "(LThirdAfter$Law;)LThirdAfter$Law;"⟩
noncomputable def yX6_read : MethodName := ⟨RX6, "read", "()I"⟩
noncomputable def yX6_here : MethodName := ⟨RX6, "here", "()I"⟩
noncomputable def yX6_take : MethodName := ⟨RX6, "take", "(I)Z"⟩
noncomputable def yX6_takeOf : MethodName := ⟨RX6, "takeOf", "(Ljava/lang/String;)I"⟩
noncomputable def yX6_readLine : MethodName := ⟨RX6, "readLine", "()V"⟩
noncomputable def yX6_readEither : MethodName := ⟨RX6, "readEither", "(I)V"⟩
noncomputable def yX6_readBoth : MethodName := ⟨RX6, "readBoth", "(I)V"⟩
noncomputable def yX6_readCompared : MethodName := ⟨RX6, "readCompared", "(I)V"⟩
noncomputable def yX6_readSum : MethodName := ⟨RX6, "readSum", "(I)V"⟩
noncomputable def yX6_readProduct : MethodName := ⟨RX6, "readProduct", "(I)V"⟩
noncomputable def yX6_readPart : MethodName := ⟨RX6, "readPart", "(I)V"⟩
noncomputable def yX6_readNumber : MethodName := ⟨RX6, "readNumber", "()V"⟩
noncomputable def yX6_isDigit : MethodName := ⟨RX6, "isDigit", "(I)Z"⟩
noncomputable def RX7 : String := "ThirdAfter$Thought"
noncomputable def TX7 : u_T := fun k => match k with
  | 0 => ("ThirdAfter$Thought", "market", "LThirdAfter$Market;", true)
  | 1 => ("ThirdAfter$Thought", "comings", "[I", true)
  | 2 => ("ThirdAfter$Thought", "length", "I", false)
  | 3 => ("ThirdAfter$Thought", "payers", "[I", true)
  | 4 => ("ThirdAfter$Thought", "paid", "[I", true)
  | 5 => ("ThirdAfter$Thought", "bought", "[I", true)
  | 6 => ("ThirdAfter$Thought", "most", "I", false)
  | 7 => ("ThirdAfter$Thought", "ordered", "[I", true)
  | 8 => ("ThirdAfter$Thought", "outcomes", "[I", true)
  | _ => ("ThirdAfter$Thought", "steps", "[[I", true)
noncomputable def tyX7 : Nat → FieldType := fun k => match k with
  | 0 => .object "ThirdAfter$Market"
  | 1 => .array .int
  | 2 => .int
  | 3 => .array .int
  | 4 => .array .int
  | 5 => .array .int
  | 6 => .int
  | 7 => .array .int
  | 8 => .array .int
  | _ => .array (.array .int)
theorem nmX7 : ∀ a, a < 10 → ∀ b, b < 10 → a ≠ b → (TX7 a).2.1 ≠ (TX7 b).2.1 := by decide +kernel
theorem tyX7_ok : ∀ k, k < 10 → parseFieldDescriptor (TX7 k).2.2.1 = some (tyX7 k) := by decide +kernel
noncomputable def yX7_init : MethodName := ⟨RX7, "<init>", "()V"⟩
noncomputable def yX7_read : MethodName := ⟨RX7, "read", "(LThirdAfter$Shelf;I)V"⟩
noncomputable def yX7_runFrom : MethodName := ⟨RX7, "runFrom", "(LThirdAfter$Market;)V"⟩
noncomputable def yX7_run : MethodName := ⟨RX7, "run", "()V"⟩
noncomputable def yX7_runDays : MethodName := ⟨RX7, "runDays", "(LThirdAfter$Market;I)V"⟩
noncomputable def yX7_purseOrLacking : MethodName := ⟨RX7, "purseOrLacking", "(I)I"⟩
noncomputable def yX7_purseBehind : MethodName := ⟨RX7, "purseBehind", "(LThirdAfter$Market;I)I"⟩
noncomputable def yX7_swap : MethodName := ⟨RX7, "swap", "(II)V"⟩
noncomputable def yX7_insert : MethodName := ⟨RX7, "insert", "(II)V"⟩
noncomputable def yX7_bestPlace : MethodName := ⟨RX7, "bestPlace", "(LThirdAfter$Market;I)I"⟩
noncomputable def yX7_bestHired : MethodName := ⟨RX7, "bestHired", "(LThirdAfter$Market;II)I"⟩
noncomputable def yX7_bestChanged : MethodName := ⟨RX7, "bestChanged", "(LThirdAfter$Market;I)I"⟩
noncomputable def yX7_findBestOrder : MethodName := ⟨RX7, "findBestOrder", "(LThirdAfter$Market;II)V"⟩
noncomputable def yX7_goToNextOrder : MethodName := ⟨RX7, "goToNextOrder", "()Z"⟩
noncomputable def yX7_smallestRing : MethodName := ⟨RX7, "smallestRing", "()I"⟩
noncomputable def yX7_whoGainsMost : MethodName := ⟨RX7, "whoGainsMost", "(LThirdAfter$Market;)I"⟩
noncomputable def yX7_firstUnlike : MethodName := ⟨RX7, "firstUnlike", "(LThirdAfter$Shelf;)I"⟩
noncomputable def yX7_thirdsThatFit : MethodName := ⟨RX7, "thirdsThatFit", "(LThirdAfter$Market;LThirdAfter$Shelf;)I"⟩
noncomputable def yX7_buyersThatFit : MethodName := ⟨RX7, "buyersThatFit", "(LThirdAfter$Market;LThirdAfter$Shelf;I)I"⟩
noncomputable def yX7_wantsThatFit : MethodName := ⟨RX7, "wantsThatFit", "(LThirdAfter$Market;LThirdAfter$Shelf;I)I"⟩
noncomputable def yX7_playTurns : MethodName := ⟨RX7, "playTurns", "(LThirdAfter$Market;III)V"⟩
noncomputable def yX7_draw : MethodName := ⟨RX7, "draw", "(LThirdAfter$Market;III)I"⟩
noncomputable def RX8 : String := "ThirdAfter"
noncomputable def TX8 : u_T := fun k => match k with
  | 0 => ("ThirdAfter", "now", "LThirdAfter$Market;", true)
  | 1 => ("ThirdAfter", "image", "LThirdAfter$Market;", true)
  | 2 => ("ThirdAfter", "imaged", "Z", false)
  | 3 => ("ThirdAfter", "thought", "LThirdAfter$Thought;", true)
  | 4 => ("ThirdAfter", "changes", "LThirdAfter$Changes;", true)
  | 5 => ("ThirdAfter", "latches", "LThirdAfter$Latches;", true)
  | 6 => ("ThirdAfter", "shelves", "[LThirdAfter$Shelf;", true)
  | _ => ("ThirdAfter", "tape", "LThirdAfter$Tape;", true)
noncomputable def tyX8 : Nat → FieldType := fun k => match k with
  | 0 => .object "ThirdAfter$Market"
  | 1 => .object "ThirdAfter$Market"
  | 2 => .boolean
  | 3 => .object "ThirdAfter$Thought"
  | 4 => .object "ThirdAfter$Changes"
  | 5 => .object "ThirdAfter$Latches"
  | 6 => .array (.object "ThirdAfter$Shelf")
  | _ => .object "ThirdAfter$Tape"
theorem nmX8 : ∀ a, a < 8 → ∀ b, b < 8 → a ≠ b → (TX8 a).2.1 ≠ (TX8 b).2.1 := by decide +kernel
theorem tyX8_ok : ∀ k, k < 8 → parseFieldDescriptor (TX8 k).2.2.1 = some (tyX8 k) := by decide +kernel
noncomputable def yX8_init : MethodName := ⟨RX8, "<init>", "()V"⟩
noncomputable def yX8_buyer : MethodName := ⟨RX8, "buyer", "(II)I"⟩
noncomputable def yX8_buyers : MethodName := ⟨RX8, "buyers", "(III)I"⟩
noncomputable def yX8_addFromThree : MethodName := ⟨RX8, "addFromThree", "(LThirdAfter$Shelf;I)Z"⟩
noncomputable def yX8_mend : MethodName := ⟨RX8, "mend", "(III)I"⟩
noncomputable def yX8_of : MethodName := ⟨RX8, "of", "(II)I"⟩
noncomputable def yX8_feed : MethodName := ⟨RX8, "feed", "(I)I"⟩
noncomputable def yX8_law : MethodName := ⟨RX8, "law", "()I"⟩
noncomputable def yX8_book : MethodName := ⟨RX8, "book", "(II)I"⟩
noncomputable def yX8_market : MethodName := ⟨RX8, "market", "(III)I"⟩
noncomputable def yX8_coming : MethodName := ⟨RX8, "coming", "(III)I"⟩
noncomputable def yX8_later : MethodName := ⟨RX8, "later", "(III)I"⟩
noncomputable def yX8_onceMore : MethodName := ⟨RX8, "onceMore", "(III)I"⟩
noncomputable def yX8_hired : MethodName := ⟨RX8, "hired", "(IIII)I"⟩
noncomputable def yX8_latch : MethodName := ⟨RX8, "latch", "(III)I"⟩
noncomputable def yX8_order : MethodName := ⟨RX8, "order", "(III)I"⟩
noncomputable def yX8_flow : MethodName := ⟨RX8, "flow", "(II)I"⟩
noncomputable def yX8_round : MethodName := ⟨RX8, "round", "(II)I"⟩
noncomputable def yX8_judge : MethodName := ⟨RX8, "judge", "(I)I"⟩
noncomputable def yX8_fits : MethodName := ⟨RX8, "fits", "(III)I"⟩
noncomputable def yX8_leastBit : MethodName := ⟨RX8, "leastBit", "(I)I"⟩
noncomputable def yX8_byTurns : MethodName := ⟨RX8, "byTurns", "(III)I"⟩
noncomputable def yX8_drawn : MethodName := ⟨RX8, "drawn", "(III)I"⟩
noncomputable def yX8_comes : MethodName := ⟨RX8, "comes", "(I)I"⟩
noncomputable def yX8_evening : MethodName := ⟨RX8, "evening", "()I"⟩
noncomputable def yX8_gives : MethodName := ⟨RX8, "gives", "(III)I"⟩
noncomputable def yX8_led : MethodName := ⟨RX8, "led", "(I)I"⟩
noncomputable def yX8_image : MethodName := ⟨RX8, "image", "()I"⟩
noncomputable def yX8_back : MethodName := ⟨RX8, "back", "()I"⟩
noncomputable def yX8_undo : MethodName := ⟨RX8, "undo", "()I"⟩
noncomputable def yX8_redo : MethodName := ⟨RX8, "redo", "()I"⟩
noncomputable def yX8_body : MethodName := ⟨RX8, "body", "(I)I"⟩
noncomputable def yX8_act : MethodName := ⟨RX8, "act", "(III)I"⟩
noncomputable def yX8_trace : MethodName := ⟨RX8, "trace", "(I)I"⟩
noncomputable def yX8_keep : MethodName := ⟨RX8, "keep", "(II)I"⟩
noncomputable def yX8_row : MethodName := ⟨RX8, "row", "(III)I"⟩
noncomputable def yX8_put : MethodName := ⟨RX8, "put", "(IIJ)I"⟩
noncomputable def yX8_element : MethodName := ⟨RX8, "element", "(II)J"⟩
noncomputable def yX8_shift : MethodName := ⟨RX8, "shift", "(IIIII)I"⟩
noncomputable def yX8_taken : MethodName := ⟨RX8, "taken", "(II)I"⟩
noncomputable def yX8_count : MethodName := ⟨RX8, "count", "(I)I"⟩
noncomputable def yX8_within : MethodName := ⟨RX8, "within", "(III)Z"⟩
noncomputable def yX8_isShelf : MethodName := ⟨RX8, "isShelf", "(I)Z"⟩
noncomputable def yX8_areShelves : MethodName := ⟨RX8, "areShelves", "(I)Z"⟩
noncomputable def yX8_isBuyer : MethodName := ⟨RX8, "isBuyer", "(I)Z"⟩
noncomputable def yX8_isPair : MethodName := ⟨RX8, "isPair", "(I)Z"⟩
noncomputable def yX8_isTold : MethodName := ⟨RX8, "isTold", "(II)Z"⟩
noncomputable def yX8_isNumber : MethodName := ⟨RX8, "isNumber", "(II)Z"⟩
noncomputable def yX8_refusalOfBytes : MethodName := ⟨RX8, "refusalOfBytes", "(I)I"⟩
noncomputable def yX8_refusalOfCell : MethodName := ⟨RX8, "refusalOfCell", "(II)I"⟩
noncomputable def yX8_plan : MethodName := ⟨RX8, "plan", "(I)I"⟩
noncomputable def RX9 : String := "ThirdAfterModel"
noncomputable def TX9 : u_T := fun k => match k with
  | 0 => ("ThirdAfterModel", "buyers", "I", false)
  | 1 => ("ThirdAfterModel", "ways", "[I", true)
  | 2 => ("ThirdAfterModel", "third", "I", false)
  | 3 => ("ThirdAfterModel", "dogs", "I", false)
  | 4 => ("ThirdAfterModel", "now", "[I", true)
  | 5 => ("ThirdAfterModel", "taped", "I", false)
  | 6 => ("ThirdAfterModel", "tape", "[I", true)
  | 7 => ("ThirdAfterModel", "isTold", "Z", false)
  | 8 => ("ThirdAfterModel", "lines", "I", false)
  | 9 => ("ThirdAfterModel", "asks", "[I", true)
  | 10 => ("ThirdAfterModel", "says", "[I", true)
  | 11 => ("ThirdAfterModel", "ends", "[I", true)
  | 12 => ("ThirdAfterModel", "code", "[I", true)
  | 13 => ("ThirdAfterModel", "at", "I", false)
  | 14 => ("ThirdAfterModel", "open", "I", false)
  | 15 => ("ThirdAfterModel", "coded", "I", false)
  | 16 => ("ThirdAfterModel", "newLines", "I", false)
  | 17 => ("ThirdAfterModel", "newAsks", "[I", true)
  | 18 => ("ThirdAfterModel", "newSays", "[I", true)
  | 19 => ("ThirdAfterModel", "newEnds", "[I", true)
  | 20 => ("ThirdAfterModel", "newCode", "[I", true)
  | 21 => ("ThirdAfterModel", "stack", "[I", true)
  | 22 => ("ThirdAfterModel", "names", "[I", true)
  | 23 => ("ThirdAfterModel", "led", "[I", true)
  | 24 => ("ThirdAfterModel", "imaged", "Z", false)
  | 25 => ("ThirdAfterModel", "oldBuyers", "I", false)
  | 26 => ("ThirdAfterModel", "old", "[I", true)
  | 27 => ("ThirdAfterModel", "oldLed", "[I", true)
  | 28 => ("ThirdAfterModel", "changes", "I", false)
  | 29 => ("ThirdAfterModel", "done", "I", false)
  | 30 => ("ThirdAfterModel", "changed", "[I", true)
  | 31 => ("ThirdAfterModel", "bodies", "I", false)
  | 32 => ("ThirdAfterModel", "bodyKind", "[I", true)
  | 33 => ("ThirdAfterModel", "traced", "I", false)
  | 34 => ("ThirdAfterModel", "traces", "[I", true)
  | 35 => ("ThirdAfterModel", "holding", "[I", true)
  | 36 => ("ThirdAfterModel", "rowLength", "[I", true)
  | 37 => ("ThirdAfterModel", "rowOf", "[J", true)
  | 38 => ("ThirdAfterModel", "was", "[I", true)
  | 39 => ("ThirdAfterModel", "turned", "[I", true)
  | 40 => ("ThirdAfterModel", "payer", "I", false)
  | 41 => ("ThirdAfterModel", "paid", "I", false)
  | 42 => ("ThirdAfterModel", "bought", "I", false)
  | 43 => ("ThirdAfterModel", "lacking", "I", false)
  | 44 => ("ThirdAfterModel", "flows", "[I", true)
  | 45 => ("ThirdAfterModel", "comings", "I", false)
  | 46 => ("ThirdAfterModel", "row", "[I", true)
  | 47 => ("ThirdAfterModel", "payers", "[I", true)
  | 48 => ("ThirdAfterModel", "paids", "[I", true)
  | 49 => ("ThirdAfterModel", "boughts", "[I", true)
  | 50 => ("ThirdAfterModel", "tried", "[I", true)
  | 51 => ("ThirdAfterModel", "ordered", "[I", true)
  | 52 => ("ThirdAfterModel", "best", "I", false)
  | _ => ("ThirdAfterModel", "steps", "[I", true)
noncomputable def tyX9 : Nat → FieldType := fun k => match k with
  | 0 => .int
  | 1 => .array .int
  | 2 => .int
  | 3 => .int
  | 4 => .array .int
  | 5 => .int
  | 6 => .array .int
  | 7 => .boolean
  | 8 => .int
  | 9 => .array .int
  | 10 => .array .int
  | 11 => .array .int
  | 12 => .array .int
  | 13 => .int
  | 14 => .int
  | 15 => .int
  | 16 => .int
  | 17 => .array .int
  | 18 => .array .int
  | 19 => .array .int
  | 20 => .array .int
  | 21 => .array .int
  | 22 => .array .int
  | 23 => .array .int
  | 24 => .boolean
  | 25 => .int
  | 26 => .array .int
  | 27 => .array .int
  | 28 => .int
  | 29 => .int
  | 30 => .array .int
  | 31 => .int
  | 32 => .array .int
  | 33 => .int
  | 34 => .array .int
  | 35 => .array .int
  | 36 => .array .int
  | 37 => .array .long
  | 38 => .array .int
  | 39 => .array .int
  | 40 => .int
  | 41 => .int
  | 42 => .int
  | 43 => .int
  | 44 => .array .int
  | 45 => .int
  | 46 => .array .int
  | 47 => .array .int
  | 48 => .array .int
  | 49 => .array .int
  | 50 => .array .int
  | 51 => .array .int
  | 52 => .int
  | _ => .array .int
theorem nmX9 : ∀ a, a < 54 → ∀ b, b < 54 → a ≠ b → (TX9 a).2.1 ≠ (TX9 b).2.1 := by decide +kernel
theorem tyX9_ok : ∀ k, k < 54 → parseFieldDescriptor (TX9 k).2.2.1 = some (tyX9 k) := by decide +kernel
noncomputable def yX9_init : MethodName := ⟨RX9, "<init>", "()V"⟩
noncomputable def yX9_within : MethodName := ⟨RX9, "within", "(III)Z"⟩
noncomputable def yX9_isBuyer : MethodName := ⟨RX9, "isBuyer", "(I)Z"⟩
noncomputable def yX9_isShelf : MethodName := ⟨RX9, "isShelf", "(I)Z"⟩
noncomputable def yX9_newBuyer : MethodName := ⟨RX9, "newBuyer", "(III)I"⟩
noncomputable def yX9_buyer : MethodName := ⟨RX9, "buyer", "(II)I"⟩
noncomputable def yX9_buyers : MethodName := ⟨RX9, "buyers", "(III)I"⟩
noncomputable def yX9_toldAt : MethodName := ⟨RX9, "toldAt", "(II)I"⟩
noncomputable def yX9_isOf : MethodName := ⟨RX9, "isOf", "(II)Z"⟩
noncomputable def yX9_isFit : MethodName := ⟨RX9, "isFit", "(II)Z"⟩
noncomputable def yX9_get : MethodName := ⟨RX9, "get", "(II)I"⟩
noncomputable def yX9_becomes : MethodName := ⟨RX9, "becomes", "(III)V"⟩
noncomputable def yX9_mend : MethodName := ⟨RX9, "mend", "(III)I"⟩
noncomputable def yX9_of : MethodName := ⟨RX9, "of", "(II)I"⟩
noncomputable def yX9_undo : MethodName := ⟨RX9, "undo", "()I"⟩
noncomputable def yX9_redo : MethodName := ⟨RX9, "redo", "()I"⟩
noncomputable def yX9_feed : MethodName := ⟨RX9, "feed", "(I)I"⟩
noncomputable def yX9_sign : MethodName := ⟨RX9, "sign", "()I"⟩
noncomputable def yX9_is : MethodName := ⟨RX9, "is", "(I)Z"⟩
noncomputable def yX9_codes : MethodName := ⟨RX9, "codes", "(I)Z"⟩
noncomputable def yX9_isDigit : MethodName := ⟨RX9, "isDigit", "()Z"⟩
noncomputable def yX9_nameOf : MethodName := ⟨RX9, "nameOf", "(I)I"⟩
noncomputable def yX9_isO : MethodName := ⟨RX9, "isO", "()Z"⟩
noncomputable def yX9_isP : MethodName := ⟨RX9, "isP", "()Z"⟩
noncomputable def yX9_isS : MethodName := ⟨RX9, "isS", "()Z"⟩
noncomputable def yX9_isB : MethodName := ⟨RX9, "isB", "()Z"⟩
noncomputable def yX9_isA : MethodName := ⟨RX9, "isA", "()Z"⟩
noncomputable def yX9_isE : MethodName := ⟨RX9, "isE", "()Z"⟩
noncomputable def yX9_isLine : MethodName := ⟨RX9, "isLine", "()Z"⟩
noncomputable def yX9_law : MethodName := ⟨RX9, "law", "()I"⟩
noncomputable def yX9_both : MethodName := ⟨RX9, "both", "(III)I"⟩
noncomputable def yX9_worked : MethodName := ⟨RX9, "worked", "(II)I"⟩
noncomputable def yX9_byLaw : MethodName := ⟨RX9, "byLaw", "(I)I"⟩
noncomputable def yX9_buysFor : MethodName := ⟨RX9, "buysFor", "(II)I"⟩
noncomputable def yX9_book : MethodName := ⟨RX9, "book", "(II)I"⟩
noncomputable def yX9_pays : MethodName := ⟨RX9, "pays", "(I)V"⟩
noncomputable def yX9_goesIn : MethodName := ⟨RX9, "goesIn", "(I)Z"⟩
noncomputable def yX9_ends : MethodName := ⟨RX9, "ends", "()V"⟩
noncomputable def yX9_keeps : MethodName := ⟨RX9, "keeps", "([II)V"⟩
noncomputable def yX9_laysBack : MethodName := ⟨RX9, "laysBack", "([II)V"⟩
noncomputable def yX9_goes : MethodName := ⟨RX9, "goes", "()V"⟩
noncomputable def yX9_begins : MethodName := ⟨RX9, "begins", "()V"⟩
noncomputable def yX9_purseBehind : MethodName := ⟨RX9, "purseBehind", "(I)I"⟩
noncomputable def yX9_noBytes : MethodName := ⟨RX9, "noBytes", "(I)I"⟩
noncomputable def yX9_reads : MethodName := ⟨RX9, "reads", "(I)V"⟩
noncomputable def yX9_market : MethodName := ⟨RX9, "market", "(III)I"⟩
noncomputable def yX9_coming : MethodName := ⟨RX9, "coming", "(III)I"⟩
noncomputable def yX9_later : MethodName := ⟨RX9, "later", "(III)I"⟩
noncomputable def yX9_puts : MethodName := ⟨RX9, "puts", "(II)V"⟩
noncomputable def yX9_takes : MethodName := ⟨RX9, "takes", "(I)V"⟩
noncomputable def yX9_onceMore : MethodName := ⟨RX9, "onceMore", "(III)I"⟩
noncomputable def yX9_hired : MethodName := ⟨RX9, "hired", "(IIII)I"⟩
noncomputable def yX9_swaps : MethodName := ⟨RX9, "swaps", "(I)V"⟩
noncomputable def yX9_latch : MethodName := ⟨RX9, "latch", "(III)I"⟩
noncomputable def yX9_orders : MethodName := ⟨RX9, "orders", "(III)V"⟩
noncomputable def yX9_order : MethodName := ⟨RX9, "order", "(III)I"⟩
noncomputable def yX9_isPair : MethodName := ⟨RX9, "isPair", "(I)Z"⟩
noncomputable def yX9_flow : MethodName := ⟨RX9, "flow", "(II)I"⟩
noncomputable def yX9_ring : MethodName := ⟨RX9, "ring", "()I"⟩
noncomputable def yX9_round : MethodName := ⟨RX9, "round", "(II)I"⟩
noncomputable def yX9_areShelves : MethodName := ⟨RX9, "areShelves", "(I)Z"⟩
noncomputable def yX9_noRows : MethodName := ⟨RX9, "noRows", "(I)I"⟩
noncomputable def yX9_unlike : MethodName := ⟨RX9, "unlike", "(I)I"⟩
noncomputable def yX9_judge : MethodName := ⟨RX9, "judge", "(I)I"⟩
noncomputable def yX9_thirds : MethodName := ⟨RX9, "thirds", "(I)I"⟩
noncomputable def yX9_whose : MethodName := ⟨RX9, "whose", "(II)I"⟩
noncomputable def yX9_wanted : MethodName := ⟨RX9, "wanted", "(IIZ)I"⟩
noncomputable def yX9_fits : MethodName := ⟨RX9, "fits", "(III)I"⟩
noncomputable def yX9_comesAt : MethodName := ⟨RX9, "comesAt", "(IIII)I"⟩
noncomputable def yX9_turnFrom : MethodName := ⟨RX9, "turnFrom", "(IIII)I"⟩
noncomputable def yX9_byTurns : MethodName := ⟨RX9, "byTurns", "(III)I"⟩
noncomputable def yX9_drawn : MethodName := ⟨RX9, "drawn", "(III)I"⟩
noncomputable def yX9_comes : MethodName := ⟨RX9, "comes", "(I)I"⟩
noncomputable def yX9_evening : MethodName := ⟨RX9, "evening", "()I"⟩
noncomputable def yX9_gives : MethodName := ⟨RX9, "gives", "(III)I"⟩
noncomputable def yX9_led : MethodName := ⟨RX9, "led", "(I)I"⟩
noncomputable def yX9_image : MethodName := ⟨RX9, "image", "()I"⟩
noncomputable def yX9_back : MethodName := ⟨RX9, "back", "()I"⟩
noncomputable def yX9_above : MethodName := ⟨RX9, "above", "(I)I"⟩
noncomputable def yX9_ran : MethodName := ⟨RX9, "ran", "(I)V"⟩
noncomputable def yX9_comesBy : MethodName := ⟨RX9, "comesBy", "(III)I"⟩
noncomputable def yX9_owesBy : MethodName := ⟨RX9, "owesBy", "(III)I"⟩
noncomputable def yX9_paysBy : MethodName := ⟨RX9, "paysBy", "(III)I"⟩
noncomputable def yX9_tells : MethodName := ⟨RX9, "tells", "(III)I"⟩
noncomputable def yX9_body : MethodName := ⟨RX9, "body", "(I)I"⟩
noncomputable def yX9_act : MethodName := ⟨RX9, "act", "(III)I"⟩
noncomputable def yX9_trace : MethodName := ⟨RX9, "trace", "(I)I"⟩
noncomputable def yX9_keep : MethodName := ⟨RX9, "keep", "(II)I"⟩
noncomputable def yX9_row : MethodName := ⟨RX9, "row", "(III)I"⟩
noncomputable def yX9_isRow : MethodName := ⟨RX9, "isRow", "(I)Z"⟩
noncomputable def yX9_kept : MethodName := ⟨RX9, "kept", "(IJ)J"⟩
noncomputable def yX9_put : MethodName := ⟨RX9, "put", "(IIJ)I"⟩
noncomputable def yX9_element : MethodName := ⟨RX9, "element", "(II)J"⟩
noncomputable def yX9_shift : MethodName := ⟨RX9, "shift", "(IIIII)I"⟩
noncomputable def yX9_taken : MethodName := ⟨RX9, "taken", "(II)I"⟩
noncomputable def yX9_count : MethodName := ⟨RX9, "count", "(I)I"⟩
noncomputable def RJ6 : String := "java/lang/Integer"
noncomputable def yJ6_bitCount_0f7a4 : MethodName := ⟨RJ6, "bitCount", "(I)I"⟩
noncomputable def RJ0 : String := "java/lang/String"
noncomputable def yJ0_length_8abf5 : MethodName := ⟨RJ0, "length", "()I"⟩
noncomputable def yJ0_indexOf_0f7a4 : MethodName := ⟨RJ0, "indexOf", "(I)I"⟩
noncomputable def yJ0_indexOf_7cf53 : MethodName := ⟨RJ0, "indexOf", "(II)I"⟩
noncomputable def yJ0_coder_7d493 : MethodName := ⟨RJ0, "coder", "()B"⟩
noncomputable def yJ0_isLatin1_aae02 : MethodName := ⟨RJ0, "isLatin1", "()Z"⟩
noncomputable def RJ1 : String := "java/lang/StringLatin1"
noncomputable def yJ1_canEncode_9a6ad : MethodName := ⟨RJ1, "canEncode", "(I)Z"⟩
noncomputable def yJ1_indexOf_4cfef : MethodName := ⟨RJ1, "indexOf", "([BIII)I"⟩
noncomputable def yJ1_indexOfChar_4cfef : MethodName := ⟨RJ1, "indexOfChar", "([BIII)I"⟩
noncomputable def RL : String := "ThirdAfterLaw"
noncomputable def yL_law : MethodName := ⟨RL, "law", "([I)Z"⟩
noncomputable abbrev vwCl : List vw_C := [(RX0, TX0, 3), (RX1, TX1, 6), (RX2, TX2, 4), (RX3, TX3, 6), (RX4, TX4, 18), (RX5, TX5, 5), (RX6, TX6, 5), (RX7, TX7, 10), (RX8, TX8, 8), (RX9, TX9, 54)]
end
section
/-! THE SMALL MACHINE'S HEAP: cells by place; place k is the cell at base + k; from mi_RO on, what is only read (static arrays, Strings, the script) -/
noncomputable def mi_RO : Nat := 1000000
noncomputable def mi_good : List Cond := lw_tbl.filter goodWord
noncomputable def mi_tt0 : List Cond := lw_tbl
noncomputable def mi_tt1 : List Cond := mi_tt0.drop 32
noncomputable def mi_tt2 : List Cond := mi_tt1.drop 32
noncomputable def mi_tt3 : List Cond := mi_tt2.drop 32
noncomputable def mi_tt4 : List Cond := mi_tt3.drop 32
noncomputable def mi_tt5 : List Cond := mi_tt4.drop 32
noncomputable def mi_tt6 : List Cond := mi_tt5.drop 32
noncomputable def mi_tt7 : List Cond := mi_tt6.drop 32
noncomputable def mi_tt8 : List Cond := mi_tt7.drop 32
noncomputable def mi_tt9 : List Cond := mi_tt8.drop 32
noncomputable def mi_tt10 : List Cond := mi_tt9.drop 32
noncomputable def mi_tt11 : List Cond := mi_tt10.drop 32
noncomputable def mi_tt12 : List Cond := mi_tt11.drop 32
noncomputable def mi_tt13 : List Cond := mi_tt12.drop 32
noncomputable def mi_tt14 : List Cond := mi_tt13.drop 32
noncomputable def mi_tt15 : List Cond := mi_tt14.drop 32
noncomputable def mi_tt16 : List Cond := mi_tt15.drop 32
noncomputable def mi_tt17 : List Cond := mi_tt16.drop 32
noncomputable def mi_tt18 : List Cond := mi_tt17.drop 32
noncomputable def mi_tt19 : List Cond := mi_tt18.drop 32
noncomputable def mi_tt20 : List Cond := mi_tt19.drop 32
noncomputable def mi_tt21 : List Cond := mi_tt20.drop 32
noncomputable def mi_tt22 : List Cond := mi_tt21.drop 32
noncomputable def mi_tt23 : List Cond := mi_tt22.drop 32
noncomputable def mi_tt24 : List Cond := mi_tt23.drop 32
noncomputable def mi_tt25 : List Cond := mi_tt24.drop 32
noncomputable def mi_tt26 : List Cond := mi_tt25.drop 32
noncomputable def mi_tt27 : List Cond := mi_tt26.drop 32
noncomputable def mi_tt28 : List Cond := mi_tt27.drop 32
noncomputable def mi_tt29 : List Cond := mi_tt28.drop 32
noncomputable def mi_tt30 : List Cond := mi_tt29.drop 32
noncomputable def mi_tt31 : List Cond := mi_tt30.drop 32
noncomputable def mi_tt32 : List Cond := mi_tt31.drop 32
noncomputable def mi_tt33 : List Cond := mi_tt32.drop 32
noncomputable def mi_tt34 : List Cond := mi_tt33.drop 32
noncomputable def mi_tt35 : List Cond := mi_tt34.drop 32
noncomputable def mi_tt36 : List Cond := mi_tt35.drop 32
noncomputable def mi_tt37 : List Cond := mi_tt36.drop 32
noncomputable def mi_tt38 : List Cond := mi_tt37.drop 32
noncomputable def mi_tt39 : List Cond := mi_tt38.drop 32
noncomputable def mi_tt40 : List Cond := mi_tt39.drop 32
noncomputable def mi_tt41 : List Cond := mi_tt40.drop 32
noncomputable def mi_tt42 : List Cond := mi_tt41.drop 32
noncomputable def mi_tt43 : List Cond := mi_tt42.drop 32
noncomputable def mi_tt44 : List Cond := mi_tt43.drop 32
noncomputable def mi_tt45 : List Cond := mi_tt44.drop 32
noncomputable def mi_tt46 : List Cond := mi_tt45.drop 32
noncomputable def mi_tt47 : List Cond := mi_tt46.drop 32
noncomputable def mi_tt48 : List Cond := mi_tt47.drop 32
noncomputable def mi_tt49 : List Cond := mi_tt48.drop 32
noncomputable def mi_tt50 : List Cond := mi_tt49.drop 32
noncomputable def mi_tt51 : List Cond := mi_tt50.drop 32
noncomputable def mi_tk (k : Nat) : List Cond := (cond (Nat.blt k 26) (cond (Nat.blt k 13) (cond (Nat.blt k 6) (cond (Nat.blt k 3) (cond (Nat.blt k 1) mi_tt0 (cond (Nat.blt k 2) mi_tt1 mi_tt2)) (cond (Nat.blt k 4) mi_tt3 (cond (Nat.blt k 5) mi_tt4 mi_tt5))) (cond (Nat.blt k 9) (cond (Nat.blt k 7) mi_tt6 (cond (Nat.blt k 8) mi_tt7 mi_tt8)) (cond (Nat.blt k 11) (cond (Nat.blt k 10) mi_tt9 mi_tt10) (cond (Nat.blt k 12) mi_tt11 mi_tt12)))) (cond (Nat.blt k 19) (cond (Nat.blt k 16) (cond (Nat.blt k 14) mi_tt13 (cond (Nat.blt k 15) mi_tt14 mi_tt15)) (cond (Nat.blt k 17) mi_tt16 (cond (Nat.blt k 18) mi_tt17 mi_tt18))) (cond (Nat.blt k 22) (cond (Nat.blt k 20) mi_tt19 (cond (Nat.blt k 21) mi_tt20 mi_tt21)) (cond (Nat.blt k 24) (cond (Nat.blt k 23) mi_tt22 mi_tt23) (cond (Nat.blt k 25) mi_tt24 mi_tt25))))) (cond (Nat.blt k 39) (cond (Nat.blt k 32) (cond (Nat.blt k 29) (cond (Nat.blt k 27) mi_tt26 (cond (Nat.blt k 28) mi_tt27 mi_tt28)) (cond (Nat.blt k 30) mi_tt29 (cond (Nat.blt k 31) mi_tt30 mi_tt31))) (cond (Nat.blt k 35) (cond (Nat.blt k 33) mi_tt32 (cond (Nat.blt k 34) mi_tt33 mi_tt34)) (cond (Nat.blt k 37) (cond (Nat.blt k 36) mi_tt35 mi_tt36) (cond (Nat.blt k 38) mi_tt37 mi_tt38)))) (cond (Nat.blt k 45) (cond (Nat.blt k 42) (cond (Nat.blt k 40) mi_tt39 (cond (Nat.blt k 41) mi_tt40 mi_tt41)) (cond (Nat.blt k 43) mi_tt42 (cond (Nat.blt k 44) mi_tt43 mi_tt44))) (cond (Nat.blt k 48) (cond (Nat.blt k 46) mi_tt45 (cond (Nat.blt k 47) mi_tt46 mi_tt47)) (cond (Nat.blt k 50) (cond (Nat.blt k 49) mi_tt48 mi_tt49) (cond (Nat.blt k 51) mi_tt50 mi_tt51))))))
noncomputable def mi_ta (w : Nat) : Option Cond := (mi_tk (w / 32))[w % 32]?
theorem mi_tin0 {q : Cond} (h : q ∈ mi_tt0) : q ∈ lw_tbl := h
theorem mi_tin1 {q : Cond} (h : q ∈ mi_tt1) : q ∈ lw_tbl := mi_tin0 (List.mem_of_mem_drop h)
theorem mi_tin2 {q : Cond} (h : q ∈ mi_tt2) : q ∈ lw_tbl := mi_tin1 (List.mem_of_mem_drop h)
theorem mi_tin3 {q : Cond} (h : q ∈ mi_tt3) : q ∈ lw_tbl := mi_tin2 (List.mem_of_mem_drop h)
theorem mi_tin4 {q : Cond} (h : q ∈ mi_tt4) : q ∈ lw_tbl := mi_tin3 (List.mem_of_mem_drop h)
theorem mi_tin5 {q : Cond} (h : q ∈ mi_tt5) : q ∈ lw_tbl := mi_tin4 (List.mem_of_mem_drop h)
theorem mi_tin6 {q : Cond} (h : q ∈ mi_tt6) : q ∈ lw_tbl := mi_tin5 (List.mem_of_mem_drop h)
theorem mi_tin7 {q : Cond} (h : q ∈ mi_tt7) : q ∈ lw_tbl := mi_tin6 (List.mem_of_mem_drop h)
theorem mi_tin8 {q : Cond} (h : q ∈ mi_tt8) : q ∈ lw_tbl := mi_tin7 (List.mem_of_mem_drop h)
theorem mi_tin9 {q : Cond} (h : q ∈ mi_tt9) : q ∈ lw_tbl := mi_tin8 (List.mem_of_mem_drop h)
theorem mi_tin10 {q : Cond} (h : q ∈ mi_tt10) : q ∈ lw_tbl := mi_tin9 (List.mem_of_mem_drop h)
theorem mi_tin11 {q : Cond} (h : q ∈ mi_tt11) : q ∈ lw_tbl := mi_tin10 (List.mem_of_mem_drop h)
theorem mi_tin12 {q : Cond} (h : q ∈ mi_tt12) : q ∈ lw_tbl := mi_tin11 (List.mem_of_mem_drop h)
theorem mi_tin13 {q : Cond} (h : q ∈ mi_tt13) : q ∈ lw_tbl := mi_tin12 (List.mem_of_mem_drop h)
theorem mi_tin14 {q : Cond} (h : q ∈ mi_tt14) : q ∈ lw_tbl := mi_tin13 (List.mem_of_mem_drop h)
theorem mi_tin15 {q : Cond} (h : q ∈ mi_tt15) : q ∈ lw_tbl := mi_tin14 (List.mem_of_mem_drop h)
theorem mi_tin16 {q : Cond} (h : q ∈ mi_tt16) : q ∈ lw_tbl := mi_tin15 (List.mem_of_mem_drop h)
theorem mi_tin17 {q : Cond} (h : q ∈ mi_tt17) : q ∈ lw_tbl := mi_tin16 (List.mem_of_mem_drop h)
theorem mi_tin18 {q : Cond} (h : q ∈ mi_tt18) : q ∈ lw_tbl := mi_tin17 (List.mem_of_mem_drop h)
theorem mi_tin19 {q : Cond} (h : q ∈ mi_tt19) : q ∈ lw_tbl := mi_tin18 (List.mem_of_mem_drop h)
theorem mi_tin20 {q : Cond} (h : q ∈ mi_tt20) : q ∈ lw_tbl := mi_tin19 (List.mem_of_mem_drop h)
theorem mi_tin21 {q : Cond} (h : q ∈ mi_tt21) : q ∈ lw_tbl := mi_tin20 (List.mem_of_mem_drop h)
theorem mi_tin22 {q : Cond} (h : q ∈ mi_tt22) : q ∈ lw_tbl := mi_tin21 (List.mem_of_mem_drop h)
theorem mi_tin23 {q : Cond} (h : q ∈ mi_tt23) : q ∈ lw_tbl := mi_tin22 (List.mem_of_mem_drop h)
theorem mi_tin24 {q : Cond} (h : q ∈ mi_tt24) : q ∈ lw_tbl := mi_tin23 (List.mem_of_mem_drop h)
theorem mi_tin25 {q : Cond} (h : q ∈ mi_tt25) : q ∈ lw_tbl := mi_tin24 (List.mem_of_mem_drop h)
theorem mi_tin26 {q : Cond} (h : q ∈ mi_tt26) : q ∈ lw_tbl := mi_tin25 (List.mem_of_mem_drop h)
theorem mi_tin27 {q : Cond} (h : q ∈ mi_tt27) : q ∈ lw_tbl := mi_tin26 (List.mem_of_mem_drop h)
theorem mi_tin28 {q : Cond} (h : q ∈ mi_tt28) : q ∈ lw_tbl := mi_tin27 (List.mem_of_mem_drop h)
theorem mi_tin29 {q : Cond} (h : q ∈ mi_tt29) : q ∈ lw_tbl := mi_tin28 (List.mem_of_mem_drop h)
theorem mi_tin30 {q : Cond} (h : q ∈ mi_tt30) : q ∈ lw_tbl := mi_tin29 (List.mem_of_mem_drop h)
theorem mi_tin31 {q : Cond} (h : q ∈ mi_tt31) : q ∈ lw_tbl := mi_tin30 (List.mem_of_mem_drop h)
theorem mi_tin32 {q : Cond} (h : q ∈ mi_tt32) : q ∈ lw_tbl := mi_tin31 (List.mem_of_mem_drop h)
theorem mi_tin33 {q : Cond} (h : q ∈ mi_tt33) : q ∈ lw_tbl := mi_tin32 (List.mem_of_mem_drop h)
theorem mi_tin34 {q : Cond} (h : q ∈ mi_tt34) : q ∈ lw_tbl := mi_tin33 (List.mem_of_mem_drop h)
theorem mi_tin35 {q : Cond} (h : q ∈ mi_tt35) : q ∈ lw_tbl := mi_tin34 (List.mem_of_mem_drop h)
theorem mi_tin36 {q : Cond} (h : q ∈ mi_tt36) : q ∈ lw_tbl := mi_tin35 (List.mem_of_mem_drop h)
theorem mi_tin37 {q : Cond} (h : q ∈ mi_tt37) : q ∈ lw_tbl := mi_tin36 (List.mem_of_mem_drop h)
theorem mi_tin38 {q : Cond} (h : q ∈ mi_tt38) : q ∈ lw_tbl := mi_tin37 (List.mem_of_mem_drop h)
theorem mi_tin39 {q : Cond} (h : q ∈ mi_tt39) : q ∈ lw_tbl := mi_tin38 (List.mem_of_mem_drop h)
theorem mi_tin40 {q : Cond} (h : q ∈ mi_tt40) : q ∈ lw_tbl := mi_tin39 (List.mem_of_mem_drop h)
theorem mi_tin41 {q : Cond} (h : q ∈ mi_tt41) : q ∈ lw_tbl := mi_tin40 (List.mem_of_mem_drop h)
theorem mi_tin42 {q : Cond} (h : q ∈ mi_tt42) : q ∈ lw_tbl := mi_tin41 (List.mem_of_mem_drop h)
theorem mi_tin43 {q : Cond} (h : q ∈ mi_tt43) : q ∈ lw_tbl := mi_tin42 (List.mem_of_mem_drop h)
theorem mi_tin44 {q : Cond} (h : q ∈ mi_tt44) : q ∈ lw_tbl := mi_tin43 (List.mem_of_mem_drop h)
theorem mi_tin45 {q : Cond} (h : q ∈ mi_tt45) : q ∈ lw_tbl := mi_tin44 (List.mem_of_mem_drop h)
theorem mi_tin46 {q : Cond} (h : q ∈ mi_tt46) : q ∈ lw_tbl := mi_tin45 (List.mem_of_mem_drop h)
theorem mi_tin47 {q : Cond} (h : q ∈ mi_tt47) : q ∈ lw_tbl := mi_tin46 (List.mem_of_mem_drop h)
theorem mi_tin48 {q : Cond} (h : q ∈ mi_tt48) : q ∈ lw_tbl := mi_tin47 (List.mem_of_mem_drop h)
theorem mi_tin49 {q : Cond} (h : q ∈ mi_tt49) : q ∈ lw_tbl := mi_tin48 (List.mem_of_mem_drop h)
theorem mi_tin50 {q : Cond} (h : q ∈ mi_tt50) : q ∈ lw_tbl := mi_tin49 (List.mem_of_mem_drop h)
theorem mi_tin51 {q : Cond} (h : q ∈ mi_tt51) : q ∈ lw_tbl := mi_tin50 (List.mem_of_mem_drop h)
theorem mi_tbr {q : Cond} {b : Bool} {A B : List Cond} (hA : q ∈ A → q ∈ lw_tbl) (hB : q ∈ B → q ∈ lw_tbl) (h : q ∈ cond b A B) : q ∈ lw_tbl := by
  cases b
  · exact hB h
  · exact hA h
theorem mi_tk_in {k : Nat} {q : Cond} (h : q ∈ mi_tk k) : q ∈ lw_tbl := (mi_tbr (mi_tbr (mi_tbr (mi_tbr (mi_tbr mi_tin0 (mi_tbr mi_tin1 mi_tin2)) (mi_tbr mi_tin3 (mi_tbr mi_tin4 mi_tin5))) (mi_tbr (mi_tbr mi_tin6 (mi_tbr mi_tin7 mi_tin8)) (mi_tbr (mi_tbr mi_tin9 mi_tin10) (mi_tbr mi_tin11 mi_tin12)))) (mi_tbr (mi_tbr (mi_tbr mi_tin13 (mi_tbr mi_tin14 mi_tin15)) (mi_tbr mi_tin16 (mi_tbr mi_tin17 mi_tin18))) (mi_tbr (mi_tbr mi_tin19 (mi_tbr mi_tin20 mi_tin21)) (mi_tbr (mi_tbr mi_tin22 mi_tin23) (mi_tbr mi_tin24 mi_tin25))))) (mi_tbr (mi_tbr (mi_tbr (mi_tbr mi_tin26 (mi_tbr mi_tin27 mi_tin28)) (mi_tbr mi_tin29 (mi_tbr mi_tin30 mi_tin31))) (mi_tbr (mi_tbr mi_tin32 (mi_tbr mi_tin33 mi_tin34)) (mi_tbr (mi_tbr mi_tin35 mi_tin36) (mi_tbr mi_tin37 mi_tin38)))) (mi_tbr (mi_tbr (mi_tbr mi_tin39 (mi_tbr mi_tin40 mi_tin41)) (mi_tbr mi_tin42 (mi_tbr mi_tin43 mi_tin44))) (mi_tbr (mi_tbr mi_tin45 (mi_tbr mi_tin46 mi_tin47)) (mi_tbr (mi_tbr mi_tin48 mi_tin49) (mi_tbr mi_tin50 mi_tin51)))))) h
theorem mi_ta_in {w : Nat} {q : Cond} (h : mi_ta w = some q) : q ∈ lw_tbl := mi_tk_in (List.mem_of_getElem? h)
noncomputable def mi_wd (w : Nat) (q : Cond) : Bool := decide (mi_ta w = some q) && goodWord q
theorem mi_wd_in {w : Nat} {q : Cond} (h : mi_wd w q = true) : q ∈ mi_good := by
  obtain ⟨h1, h2⟩ := Bool.and_eq_true_iff.mp h
  exact List.mem_filter.mpr ⟨mi_ta_in (of_decide_eq_true h1), h2⟩
theorem mi_good_self {ws : List Cond} (h : ∀ w ∈ ws, w ∈ mi_good) : GoodIn mi_good ws := fun w hw => ⟨h w hw, good_of_word (List.mem_filter.mp (h w hw)).2⟩
noncomputable def mi_ad (base : Nat) (ra : Nat → Nat) (k : Nat) : Nat := match Nat.blt k mi_RO with
  | true => base + k
  | false => ra (k - mi_RO)
theorem mi_ad_lo {base : Nat} {ra : Nat → Nat} {k : Nat} (h : Nat.blt k mi_RO = true) : mi_ad base ra k = base + k := by unfold mi_ad; rw [h]
theorem mi_ad_hi {base : Nat} {ra : Nat → Nat} {k : Nat} (h : Nat.blt k mi_RO = false) : mi_ad base ra k = ra (k - mi_RO) := by unfold mi_ad; rw [h]
noncomputable def mi_rA (ad : Nat → Nat) : mi_A → vp_A
  | .inl l => (l.length, .inl (fun i => l.getD i 0))
  | .inr (.inl l) => (l.length, .inr (.inl (fun i => l.getD i 0)))
  | .inr (.inr l) => (l.length, .inr (.inr (.inr (.inr (fun i => (l.getD i none).map ad)))))
noncomputable def mi_rE (ad : Nat → Nat) (cT : FieldType → ClassId) : mi_E → va_E
  | .inl o => .inr (o.1, mi_st ad o.2)
  | .inr a => .inl (cT a.1, mi_rA ad a.2)
noncomputable def mi_W (base : Nat) (ra : Nat → Nat) (cT : FieldType → ClassId) (h : mi_H) : va_W := h.mapIdx (fun k x => (base + k, mi_rE (mi_ad base ra) cT x))
theorem mi_W_get {base : Nat} {ra : Nat → Nat} {cT : FieldType → ClassId} {h : mi_H} {k : Nat} {x : mi_E} (hk : h[k]? = some x) : (mi_W base ra cT h)[k]? = some (base + k, mi_rE (mi_ad base ra) cT x) := by
  unfold mi_W
  rw [List.getElem?_mapIdx, hk]
  rfl
theorem mi_W_inv {base : Nat} {ra : Nat → Nat} {cT : FieldType → ClassId} {h : mi_H} {k : Nat} {q : Nat × va_E} (hk : (mi_W base ra cT h)[k]? = some q) : q.1 = base + k ∧ k < h.length := by
  unfold mi_W at hk
  rw [List.getElem?_mapIdx] at hk
  cases hh : h[k]? with
  | none => rw [hh] at hk; cases hk
  | some x =>
    rw [hh] at hk
    cases hk
    exact ⟨rfl, (List.getElem?_eq_some_iff.mp hh).1⟩
theorem mi_W_set (base : Nat) (ra : Nat → Nat) (cT : FieldType → ClassId) (h : mi_H) (k : Nat) (x : mi_E) : (mi_W base ra cT h).set k (base + k, mi_rE (mi_ad base ra) cT x) = mi_W base ra cT (h.set k x) := by
  unfold mi_W
  apply List.ext_getElem?
  intro i
  rw [List.getElem?_mapIdx, List.getElem?_set, List.getElem?_set, List.getElem?_mapIdx, List.length_mapIdx]
  by_cases e : k = i
  · subst e
    by_cases hl : k < h.length
    · simp [hl]
    · simp [hl]
  · simp [e]
theorem mi_W_push (base : Nat) (ra : Nat → Nat) (cT : FieldType → ClassId) (h : mi_H) (x : mi_E) : mi_W base ra cT (h ++ [x]) = mi_W base ra cT h ++ [(base + h.length, mi_rE (mi_ad base ra) cT x)] := by
  unfold mi_W
  simp [List.mapIdx_append]
theorem mi_D (base : Nat) (ra : Nat → Nat) (cT : FieldType → ClassId) (h : mi_H) : va_D (fun q : Nat => base ≤ q) (mi_W base ra cT h) := by
  refine ⟨fun i j x y hi hj hxy => ?_, fun k q hk => ?_⟩
  · have h1 := (mi_W_inv hi).1
    have h2 := (mi_W_inv hj).1
    omega
  · have h1 := (mi_W_inv hk).1
    omega
/-- lists as functions -/
theorem mi_getD_set {α : Type} (l : List α) (d : α) (k : Nat) (x : α) (hk : k < l.length) : (fun i => (l.set k x).getD i d) = (fun i => if i = k then x else l.getD i d) := by
  funext i
  rw [List.getD_eq_getElem?_getD, List.getD_eq_getElem?_getD, List.getElem?_set]
  by_cases e : k = i
  · subst e
    simp [hk]
  · rw [if_neg e, if_neg (fun z => e z.symm)]
noncomputable def mi_cpy {α : Type} (l g : List α) (sp dp n : Nat) : List α := g.take dp ++ ((l.drop sp).take n ++ g.drop (dp + n))
theorem mi_cpy_len {α : Type} {l g : List α} {sp dp n : Nat} (h1 : sp + n ≤ l.length) (h2 : dp + n ≤ g.length) : (mi_cpy l g sp dp n).length = g.length := by
  unfold mi_cpy
  simp only [List.length_append, List.length_take, List.length_drop]
  omega
theorem mi_cpy_get {α : Type} {l g : List α} {sp dp n : Nat} (d : α) (h1 : sp + n ≤ l.length) (h2 : dp + n ≤ g.length) : (fun i => (mi_cpy l g sp dp n).getD i d) = va_cpy (fun i => l.getD i d) (fun i => g.getD i d) sp dp n := by
  funext i
  unfold mi_cpy va_cpy
  show (g.take dp ++ ((l.drop sp).take n ++ g.drop (dp + n))).getD i d = if dp ≤ i ∧ i < dp + n then l.getD (sp + (i - dp)) d else g.getD i d
  rw [List.getD_eq_getElem?_getD, List.getD_eq_getElem?_getD (l := l), List.getD_eq_getElem?_getD (l := g)]
  by_cases ha : i < dp
  · rw [if_neg (by omega), List.getElem?_append_left (by rw [List.length_take]; omega), List.getElem?_take_of_lt ha]
  · rw [List.getElem?_append_right (by rw [List.length_take]; omega)]
    have hl : (g.take dp).length = dp := by rw [List.length_take]; omega
    rw [hl]
    by_cases hb : i < dp + n
    · rw [if_pos (by omega), List.getElem?_append_left (by rw [List.length_take, List.length_drop]; omega), List.getElem?_take_of_lt (by omega), List.getElem?_drop]
    · rw [if_neg (by omega), List.getElem?_append_right (by rw [List.length_take, List.length_drop]; omega)]
      have hm : ((l.drop sp).take n).length = n := by rw [List.length_take, List.length_drop]; omega
      rw [hm, List.getElem?_drop]
      congr 2
      omega
end
section
/-! tables by program: the classes of the worlds, the statics, the Strings, the heads of the methods -/
noncomputable def mi_ft (ci : Nat) : Nat → FieldType := match ci with
  | 0 => tyX0
  | 1 => tyX1
  | 2 => tyX2
  | 3 => tyX3
  | 4 => tyX4
  | 5 => tyX5
  | 6 => tyX6
  | 7 => tyX7
  | 8 => tyX8
  | _ => tyX9
noncomputable def mi_df (ci : Nat) : List Value := match ci with
  | 0 => [.null, .null, .int 0]
  | 1 => [.null, .null, .null, .null, .int 0, .int 0]
  | 2 => [.null, .int 0, .null, .int 0]
  | 3 => [.int 0, .null, .null, .int 0, .null, .int 0]
  | 4 => [.int 0, .null, .null, .null, .null, .null, .int 0, .int 0, .int 0, .int 0, .null, .null, .null, .null, .int 0, .int 0, .int 0, .null]
  | 5 => [.int 0, .int 0, .int 0, .int 0, .null]
  | 6 => [.null, .int 0, .int 0, .int 0, .null]
  | 7 => [.null, .null, .int 0, .null, .null, .null, .int 0, .null, .null, .null]
  | 8 => [.null, .null, .int 0, .null, .null, .null, .null, .null]
  | _ => [.int 0, .null, .int 0, .int 0, .null, .int 0, .null, .int 0, .int 0, .null, .null, .null, .null, .int 0, .int 0, .int 0, .int 0, .null, .null, .null, .null, .null, .null, .null, .int 0, .int 0, .null, .null, .int 0, .int 0, .null, .int 0, .null, .int 0, .null, .null, .null, .null, .null, .null, .int 0, .int 0, .int 0, .int 0, .null, .int 0, .null, .null, .null, .null, .null, .null, .int 0, .null]
theorem mi_cz0 : (((List.range 3).all fun k => mi_wd ([129, 131, 133].getD k 0) (u_lay RX0 TX0 k)) && mi_wd 115 (.instantiable RX0 3) && mi_wd 84 (.initialized RX0)) = true := by decide +kernel
theorem mi_cd0 : (∀ j, j < 3 → defaultValue (tyX0 j) = vp_V (mi_df 0) j) ∧ (mi_df 0).length = 3 ∧ ∀ k, k < 3 → (TX0 k).1 = RX0 := by decide +kernel
theorem mi_cz1 : (((List.range 6).all fun k => mi_wd ([313, 315, 317, 319, 321, 323].getD k 0) (u_lay RX1 TX1 k)) && mi_wd 296 (.instantiable RX1 6) && mi_wd 88 (.initialized RX1)) = true := by decide +kernel
theorem mi_cd1 : (∀ j, j < 6 → defaultValue (tyX1 j) = vp_V (mi_df 1) j) ∧ (mi_df 1).length = 6 ∧ ∀ k, k < 6 → (TX1 k).1 = RX1 := by decide +kernel
theorem mi_cz2 : (((List.range 4).all fun k => mi_wd ([340, 342, 344, 346].getD k 0) (u_lay RX2 TX2 k)) && mi_wd 327 (.instantiable RX2 4) && mi_wd 89 (.initialized RX2)) = true := by decide +kernel
theorem mi_cd2 : (∀ j, j < 4 → defaultValue (tyX2 j) = vp_V (mi_df 2) j) ∧ (mi_df 2).length = 4 ∧ ∀ k, k < 4 → (TX2 k).1 = RX2 := by decide +kernel
theorem mi_cz3 : (((List.range 6).all fun k => mi_wd ([151, 153, 155, 157, 159, 161].getD k 0) (u_lay RX3 TX3 k)) && mi_wd 138 (.instantiable RX3 6) && mi_wd 85 (.initialized RX3)) = true := by decide +kernel
theorem mi_cd3 : (∀ j, j < 6 → defaultValue (tyX3 j) = vp_V (mi_df 3) j) ∧ (mi_df 3).length = 6 ∧ ∀ k, k < 6 → (TX3 k).1 = RX3 := by decide +kernel
theorem mi_cz4 : (((List.range 18).all fun k => mi_wd ([209, 211, 213, 215, 217, 219, 221, 223, 225, 227, 229, 231, 233, 235, 237, 239, 241, 243].getD k 0) (u_lay RX4 TX4 k)) && mi_wd 109 (.instantiable RX4 18) && mi_wd 83 (.initialized RX4)) = true := by decide +kernel
theorem mi_cd4 : (∀ j, j < 18 → defaultValue (tyX4 j) = vp_V (mi_df 4) j) ∧ (mi_df 4).length = 18 ∧ ∀ k, k < 18 → (TX4 k).1 = RX4 := by decide +kernel
theorem mi_cz5 : (((List.range 5).all fun k => mi_wd ([393, 395, 397, 399, 401].getD k 0) (u_lay RX5 TX5 k)) && mi_wd 376 (.instantiable RX5 5) && mi_wd 91 (.initialized RX5)) = true := by decide +kernel
theorem mi_cd5 : (∀ j, j < 5 → defaultValue (tyX5 j) = vp_V (mi_df 5) j) ∧ (mi_df 5).length = 5 ∧ ∀ k, k < 5 → (TX5 k).1 = RX5 := by decide +kernel
theorem mi_cz6 : (((List.range 5).all fun k => mi_wd ([365, 367, 369, 371, 373].getD k 0) (u_lay RX6 TX6 k)) && mi_wd 352 (.instantiable RX6 5) && mi_wd 90 (.initialized RX6)) = true := by decide +kernel
theorem mi_cd6 : (∀ j, j < 5 → defaultValue (tyX6 j) = vp_V (mi_df 6) j) ∧ (mi_df 6).length = 5 ∧ ∀ k, k < 5 → (TX6 k).1 = RX6 := by decide +kernel
theorem mi_cz7 : (((List.range 10).all fun k => mi_wd ([274, 276, 278, 280, 282, 284, 286, 288, 290, 292].getD k 0) (u_lay RX7 TX7 k)) && mi_wd 248 (.instantiable RX7 10) && mi_wd 87 (.initialized RX7)) = true := by decide +kernel
theorem mi_cd7 : (∀ j, j < 10 → defaultValue (tyX7 j) = vp_V (mi_df 7) j) ∧ (mi_df 7).length = 10 ∧ ∀ k, k < 10 → (TX7 k).1 = RX7 := by decide +kernel
theorem mi_cz8 : (((List.range 8).all fun k => mi_wd ([413, 415, 417, 419, 421, 423, 425, 427].getD k 0) (u_lay RX8 TX8 k)) && mi_wd 101 (.instantiable RX8 8) && mi_wd 82 (.initialized RX8)) = true := by decide +kernel
theorem mi_cd8 : (∀ j, j < 8 → defaultValue (tyX8 j) = vp_V (mi_df 8) j) ∧ (mi_df 8).length = 8 ∧ ∀ k, k < 8 → (TX8 k).1 = RX8 := by decide +kernel
theorem mi_cz9 : (((List.range 54).all fun k => mi_wd ([1091, 1093, 1095, 1097, 1099, 1101, 1103, 1105, 1107, 1109, 1111, 1113, 1115, 1117, 1119, 1121, 1123, 1125, 1127, 1129, 1131, 1133, 1135, 1137, 1139, 1141, 1143, 1145, 1147, 1149, 1151, 1153, 1155, 1157, 1159, 1161, 1163, 1165, 1167, 1169, 1171, 1173, 1175, 1177, 1179, 1181, 1183, 1185, 1187, 1189, 1191, 1193, 1195, 1197].getD k 0) (u_lay RX9 TX9 k)) && mi_wd 1032 (.instantiable RX9 54) && mi_wd 92 (.initialized RX9)) = true := by decide +kernel
theorem mi_cd9 : (∀ j, j < 54 → defaultValue (tyX9 j) = vp_V (mi_df 9) j) ∧ (mi_df 9).length = 54 ∧ ∀ k, k < 54 → (TX9 k).1 = RX9 := by decide +kernel
/-- what is so of class c, which is number ci -/
noncomputable def mi_Cl (ci : Nat) (c : vw_C) : Prop := (∀ w ∈ u_ws c.1 c.2.1 c.2.2, w ∈ mi_good) ∧ (∀ a, a < c.2.2 → ∀ b, b < c.2.2 → a ≠ b → (c.2.1 a).2.1 ≠ (c.2.1 b).2.1) ∧ (∀ k, k < c.2.2 → parseFieldDescriptor (c.2.1 k).2.2.1 = some (mi_ft ci k)) ∧ (∀ j, j < c.2.2 → defaultValue (mi_ft ci j) = vp_V (mi_df ci) j) ∧ (mi_df ci).length = c.2.2 ∧ Cond.instantiable c.1 c.2.2 ∈ mi_good ∧ Cond.initialized c.1 ∈ mi_good ∧ ∀ k, k < c.2.2 → (c.2.1 k).1 = c.1
theorem mi_b1 {a b : Bool} (h : (a && b) = true) : a = true := (Bool.and_eq_true_iff.mp h).1
theorem mi_b2 {a b : Bool} (h : (a && b) = true) : b = true := (Bool.and_eq_true_iff.mp h).2
theorem mi_lays {C : String} {T : u_T} {N : Nat} {pl : List Nat} (h : ((List.range N).all fun k => mi_wd (pl.getD k 0) (u_lay C T k)) = true) : ∀ w ∈ u_ws C T N, w ∈ mi_good := by
  intro w hw
  obtain ⟨k, hk, rfl⟩ := List.mem_map.mp hw
  exact mi_wd_in (List.all_eq_true.mp h k hk)
theorem mi_cl_ok (ci : Nat) (c : vw_C) (h : vwCl[ci]? = some c) : mi_Cl ci c := by
  match ci, h with
  | 0, h => cases h; exact ⟨mi_lays (mi_b1 (mi_b1 mi_cz0)), nmX0, tyX0_ok, mi_cd0.1, mi_cd0.2.1, mi_wd_in (mi_b2 (mi_b1 mi_cz0)), mi_wd_in (mi_b2 mi_cz0), mi_cd0.2.2⟩
  | 1, h => cases h; exact ⟨mi_lays (mi_b1 (mi_b1 mi_cz1)), nmX1, tyX1_ok, mi_cd1.1, mi_cd1.2.1, mi_wd_in (mi_b2 (mi_b1 mi_cz1)), mi_wd_in (mi_b2 mi_cz1), mi_cd1.2.2⟩
  | 2, h => cases h; exact ⟨mi_lays (mi_b1 (mi_b1 mi_cz2)), nmX2, tyX2_ok, mi_cd2.1, mi_cd2.2.1, mi_wd_in (mi_b2 (mi_b1 mi_cz2)), mi_wd_in (mi_b2 mi_cz2), mi_cd2.2.2⟩
  | 3, h => cases h; exact ⟨mi_lays (mi_b1 (mi_b1 mi_cz3)), nmX3, tyX3_ok, mi_cd3.1, mi_cd3.2.1, mi_wd_in (mi_b2 (mi_b1 mi_cz3)), mi_wd_in (mi_b2 mi_cz3), mi_cd3.2.2⟩
  | 4, h => cases h; exact ⟨mi_lays (mi_b1 (mi_b1 mi_cz4)), nmX4, tyX4_ok, mi_cd4.1, mi_cd4.2.1, mi_wd_in (mi_b2 (mi_b1 mi_cz4)), mi_wd_in (mi_b2 mi_cz4), mi_cd4.2.2⟩
  | 5, h => cases h; exact ⟨mi_lays (mi_b1 (mi_b1 mi_cz5)), nmX5, tyX5_ok, mi_cd5.1, mi_cd5.2.1, mi_wd_in (mi_b2 (mi_b1 mi_cz5)), mi_wd_in (mi_b2 mi_cz5), mi_cd5.2.2⟩
  | 6, h => cases h; exact ⟨mi_lays (mi_b1 (mi_b1 mi_cz6)), nmX6, tyX6_ok, mi_cd6.1, mi_cd6.2.1, mi_wd_in (mi_b2 (mi_b1 mi_cz6)), mi_wd_in (mi_b2 mi_cz6), mi_cd6.2.2⟩
  | 7, h => cases h; exact ⟨mi_lays (mi_b1 (mi_b1 mi_cz7)), nmX7, tyX7_ok, mi_cd7.1, mi_cd7.2.1, mi_wd_in (mi_b2 (mi_b1 mi_cz7)), mi_wd_in (mi_b2 mi_cz7), mi_cd7.2.2⟩
  | 8, h => cases h; exact ⟨mi_lays (mi_b1 (mi_b1 mi_cz8)), nmX8, tyX8_ok, mi_cd8.1, mi_cd8.2.1, mi_wd_in (mi_b2 (mi_b1 mi_cz8)), mi_wd_in (mi_b2 mi_cz8), mi_cd8.2.2⟩
  | 9, h => cases h; exact ⟨mi_lays (mi_b1 (mi_b1 mi_cz9)), nmX9, tyX9_ok, mi_cd9.1, mi_cd9.2.1, mi_wd_in (mi_b2 (mi_b1 mi_cz9)), mi_wd_in (mi_b2 mi_cz9), mi_cd9.2.2⟩
  | k + 10, h => simp [vwCl] at h
noncomputable def mi_sn : List (String × String × String) := [("java/lang/String", "COMPACT_STRINGS", "Z"), ("ThirdAfter", "LEAST_NUMBER", "[I"), ("ThirdAfter", "MOST_NUMBER", "[I"), ("ThirdAfter$Latches", "OWN_BODY", "[I"), ("ThirdAfter$Latches", "ABOVE", "[I")]
noncomputable def mi_of : List (String × String) := [("coder", "B"), ("value", "[B")]
noncomputable def mi_nest : List Cond := [.methodLinkNest "ThirdAfter" 9 ⟨"ThirdAfter$Market", "<init>", "()V"⟩ "ThirdAfter", .methodLinkNest "ThirdAfter$Market" 45 ⟨"ThirdAfter$Book", "<init>", "()V"⟩ "ThirdAfter", .methodLinkNest "ThirdAfter$Market" 52 ⟨"ThirdAfter$Law", "<init>", "()V"⟩ "ThirdAfter", .methodLinkNest "ThirdAfter" 25 ⟨"ThirdAfter$Thought", "<init>", "()V"⟩ "ThirdAfter", .methodLinkNest "ThirdAfter$Thought" 11 ⟨"ThirdAfter$Market", "<init>", "()V"⟩ "ThirdAfter", .methodLinkNest "ThirdAfter" 32 ⟨"ThirdAfter$Changes", "<init>", "()V"⟩ "ThirdAfter", .methodLinkNest "ThirdAfter" 39 ⟨"ThirdAfter$Latches", "<init>", "()V"⟩ "ThirdAfter", .methodLinkNest "ThirdAfter" 52 ⟨"ThirdAfter$Tape", "<init>", "()V"⟩ "ThirdAfter", .methodLinkNest "ThirdAfter$Tape" 28 ⟨"ThirdAfter$Law", "<init>", "()V"⟩ "ThirdAfter", .methodLinkNest "ThirdAfter" 57 ⟨"ThirdAfter$Shelf", "<init>", "()V"⟩ "ThirdAfter", .fieldLinkNest "ThirdAfter$Thought" 130 "ThirdAfter" "LEAST_NUMBER" "[I" "ThirdAfter", .fieldLinkNest "ThirdAfter$Thought" 133 "ThirdAfter" "MOST_NUMBER" "[I" "ThirdAfter"]
noncomputable def mi_nestB (w : Nat) (q : Cond) : Bool := decide (mi_nest[w]? = some q)
/-- own class, entry, text, the number of the text -/
noncomputable def mi_strs : List (String × Nat × String × Nat) := [("ThirdAfter$Market", 74, "wphnod", 0), ("ThirdAfter$Tape", 98, "wphnod", 0), ("ThirdAfter$Tape", 100, "(!-", 1), ("ThirdAfter$Tape", 90, "*/%", 2), ("ThirdAfter$Tape", 85, "+-", 3), ("ThirdAfter$Tape", 76, "<=>", 4)]
noncomputable def mi_txt : List String := ["wphnod", "(!-", "*/%", "+-", "<=>"]
noncomputable def mi_byt : List (List Int32) := [[119, 112, 104, 110, 111, 100], [40, 33, 45], [42, 47, 37], [43, 45], [60, 61, 62]]
/-- the bytes of a method, as the tables have them -/
noncomputable def mi_cb (w : Nat) : ByteArray := match mi_ta w with
  | some (.code _ b _ _) => b
  | _ => ⟨#[]⟩
noncomputable def mi_isC (w : Nat) (y : MethodName) (n : Nat) (r : Option FieldType) : Bool := match mi_ta w with
  | some (.code y1 _ n1 r1) => decide (y1 = y) && Nat.beq n1 n && decide (r1 = r)
  | _ => false
theorem mi_isC_ok {w : Nat} {y : MethodName} {n : Nat} {r : Option FieldType} (h : mi_isC w y n r = true) : Cond.code y (mi_cb w) n r ∈ mi_good := by
  unfold mi_isC at h
  unfold mi_cb
  split at h
  next y1 b n1 r1 e =>
    obtain ⟨h1, h2⟩ := Bool.and_eq_true_iff.mp h
    obtain ⟨h0, h1⟩ := Bool.and_eq_true_iff.mp h1
    rw [← of_decide_eq_true h0, ← of_decide_eq_true h2, ← Nat.eq_of_beq_eq_true h1]
    exact List.mem_filter.mpr ⟨mi_ta_in e, rfl⟩
  next => cases h
/-- a method's head: its name, the place of its code (99999: the law), its locals, what it returns, its class (100: String ..), how many numbers it takes, 0 static 1 virtual 2 constructor 3 the law, cells and slots that it makes -/
abbrev mi_M : Type := MethodName × Nat × Nat × Option FieldType × Nat × Nat × Nat × Nat × Nat
noncomputable def mi_bytes (r : mi_M) : ByteArray := match Nat.beq r.2.1 99999 with
  | true => code
  | false => mi_cb r.2.1
noncomputable def mi_h0 : mi_M := (yX0_init, 118, 1, none, 0, 0, 2, 2, 10)
noncomputable def mi_h1 : mi_M := (yX0_add, 746, 3, none, 0, 2, 1, 0, 0)
noncomputable def mi_h2 : mi_M := (yX0_dropOldest, 723, 1, none, 0, 0, 1, 0, 0)
noncomputable def mi_h3 : mi_M := (yX0_become, 706, 2, none, 0, 1, 1, 0, 0)
noncomputable def mi_h4 : mi_M := (yX1_init, 299, 1, none, 1, 0, 2, 4, 160)
noncomputable def mi_h5 : mi_M := (yX1_add, 495, 5, none, 1, 4, 1, 0, 0)
noncomputable def mi_h6 : mi_M := (yX1_forgetOldest, 499, 1, none, 1, 0, 1, 0, 0)
noncomputable def mi_h7 : mi_M := (yX2_init, 330, 1, none, 2, 0, 2, 2, 74)
noncomputable def mi_h8 : mi_M := (yX2_isThere, 955, 2, (some .boolean), 2, 1, 1, 0, 0)
noncomputable def mi_h9 : mi_M := (yX2_add, 943, 2, (some .int), 2, 1, 1, 0, 0)
noncomputable def mi_h10 : mi_M := (yX2_isUnder, 1026, 4, (some .boolean), 2, 2, 0, 0, 0)
noncomputable def mi_h11 : mi_M := (yX2_kindWithBody, 962, 4, (some .int), 2, 2, 0, 0, 0)
noncomputable def mi_h12 : mi_M := (yX2_perform, 951, 4, (some .int), 2, 3, 1, 0, 0)
noncomputable def mi_h13 : mi_M := (yX2_run, 959, 9, (some .int), 2, 5, 1, 0, 0)
noncomputable def mi_h14 : mi_M := (yX2_runTopmost, 970, 7, (some .int), 2, 4, 1, 0, 0)
noncomputable def mi_h15 : mi_M := (yX3_init, 141, 1, none, 3, 0, 2, 3, 363)
noncomputable def mi_h16 : mi_M := (yX3_clear, 526, 1, none, 3, 0, 1, 0, 0)
noncomputable def mi_h17 : mi_M := (yX3_add, 569, 3, (some .int), 3, 2, 1, 0, 0)
noncomputable def mi_h18 : mi_M := (yX3_aimAtNext, 663, 2, none, 3, 1, 1, 0, 0)
noncomputable def mi_h19 : mi_M := (yX3_push, 735, 2, none, 3, 1, 1, 0, 0)
noncomputable def mi_h20 : mi_M := (yX3_pop, 739, 1, (some .int), 3, 0, 1, 0, 0)
noncomputable def mi_h21 : mi_M := (yX3_value, 731, 7, (some .int), 3, 1, 1, 0, 0)
noncomputable def mi_h22 : mi_M := (yX3_joined, 742, 3, (some .int), 3, 3, 0, 0, 0)
noncomputable def mi_h23 : mi_M := (yX4_init, 112, 1, none, 4, 0, 2, 23, 505)
noncomputable def mi_h24 : mi_M := (yX4_has, 478, 2, (some .boolean), 4, 1, 1, 0, 0)
noncomputable def mi_h25 : mi_M := (yX4_add, 447, 4, (some .int), 4, 3, 1, 0, 0)
noncomputable def mi_h26 : mi_M := (yX4_column, 487, 2, (some (.array .int)), 4, 1, 1, 0, 0)
noncomputable def mi_h27 : mi_M := (yX4_number, 482, 3, (some .int), 4, 2, 1, 0, 0)
noncomputable def mi_h28 : mi_M := (yX4_setNumber, 491, 4, none, 4, 3, 1, 0, 0)
noncomputable def mi_h29 : mi_M := (yX4_comesIn, 715, 4, (some .int), 4, 1, 1, 0, 0)
noncomputable def mi_h30 : mi_M := (yX4_payOldestTo, 719, 5, none, 4, 1, 1, 0, 0)
noncomputable def mi_h31 : mi_M := (yX4_buysFor, 727, 4, (some .int), 4, 2, 1, 0, 0)
noncomputable def mi_h32 : mi_M := (yX4_dusk, 762, 2, none, 4, 0, 1, 0, 0)
noncomputable def mi_h33 : mi_M := (yX4_takeDeeds, 699, 4, none, 4, 2, 1, 0, 0)
noncomputable def mi_h34 : mi_M := (yX4_become, 695, 4, none, 4, 1, 1, 0, 0)
noncomputable def mi_h35 : mi_M := (yX5_init, 379, 1, none, 5, 0, 2, 1, 60)
noncomputable def mi_h36 : mi_M := (yX5_isRowOf, 458, 2, (some .boolean), 5, 1, 1, 0, 0)
noncomputable def mi_h37 : mi_M := (yX5_hasCells, 1018, 3, (some .boolean), 5, 2, 1, 0, 0)
noncomputable def mi_h38 : mi_M := (yX5_holdLatch, 983, 2, none, 5, 1, 1, 0, 0)
noncomputable def mi_h39 : mi_M := (yX5_holdRow, 991, 4, none, 5, 2, 1, 0, 0)
noncomputable def mi_h40 : mi_M := (yX5_narrowed, 1005, 3, (some .long), 5, 1, 1, 0, 0)
noncomputable def mi_h41 : mi_M := (yX6_init, 355, 1, none, 6, 0, 2, 5, 489)
noncomputable def mi_h42 : mi_M := (yX6_add, 514, 2, (some .int), 6, 1, 1, 0, 0)
noncomputable def mi_h43 : mi_M := (yX6_exchange, 667, 3, (some (.object "ThirdAfter$Law")), 6, 1, 1, 0, 0)
noncomputable def mi_h44 : mi_M := (yX6_read, 522, 2, (some .int), 6, 0, 1, 0, 0)
noncomputable def mi_h45 : mi_M := (yX6_here, 558, 1, (some .int), 6, 0, 1, 0, 0)
noncomputable def mi_h46 : mi_M := (yX6_take, 656, 2, (some .boolean), 6, 1, 1, 0, 0)
noncomputable def mi_h47 : mi_M := (yX6_takeOf, 574, 3, (some .int), 6, 1, 1, 0, 0)
noncomputable def mi_h48 : mi_M := (yX6_readLine, 530, 2, none, 6, 0, 1, 0, 0)
noncomputable def mi_h49 : mi_M := (yX6_readEither, 534, 3, none, 6, 1, 1, 0, 0)
noncomputable def mi_h50 : mi_M := (yX6_readBoth, 538, 3, none, 6, 1, 1, 0, 0)
noncomputable def mi_h51 : mi_M := (yX6_readCompared, 542, 3, none, 6, 1, 1, 0, 0)
noncomputable def mi_h52 : mi_M := (yX6_readSum, 546, 4, none, 6, 1, 1, 0, 0)
noncomputable def mi_h53 : mi_M := (yX6_readProduct, 550, 4, none, 6, 1, 1, 0, 0)
noncomputable def mi_h54 : mi_M := (yX6_readPart, 554, 4, none, 6, 1, 1, 0, 0)
noncomputable def mi_h55 : mi_M := (yX6_readNumber, 565, 3, none, 6, 0, 1, 0, 0)
noncomputable def mi_h56 : mi_M := (yX6_isDigit, 561, 1, (some .boolean), 6, 1, 0, 0, 0)
noncomputable def mi_h57 : mi_M := (yX7_init, 251, 1, none, 7, 0, 2, 39, 712)
noncomputable def mi_h58 : mi_M := (yX7_read, 687, 5, none, 7, 2, 1, 0, 0)
noncomputable def mi_h59 : mi_M := (yX7_runFrom, 691, 2, none, 7, 1, 1, 0, 0)
noncomputable def mi_h60 : mi_M := (yX7_run, 711, 2, none, 7, 0, 1, 0, 0)
noncomputable def mi_h61 : mi_M := (yX7_runDays, 758, 4, none, 7, 2, 1, 0, 0)
noncomputable def mi_h62 : mi_M := (yX7_purseOrLacking, 766, 2, (some .int), 7, 1, 1, 0, 0)
noncomputable def mi_h63 : mi_M := (yX7_purseBehind, 784, 4, (some .int), 7, 2, 1, 0, 0)
noncomputable def mi_h64 : mi_M := (yX7_swap, 789, 4, none, 7, 2, 1, 0, 0)
noncomputable def mi_h65 : mi_M := (yX7_insert, 779, 3, none, 7, 2, 1, 0, 0)
noncomputable def mi_h66 : mi_M := (yX7_bestPlace, 775, 6, (some .int), 7, 2, 1, 0, 0)
noncomputable def mi_h67 : mi_M := (yX7_bestHired, 797, 7, (some .int), 7, 3, 1, 0, 0)
noncomputable def mi_h68 : mi_M := (yX7_bestChanged, 805, 6, (some .int), 7, 2, 1, 0, 0)
noncomputable def mi_h69 : mi_M := (yX7_findBestOrder, 819, 7, none, 7, 3, 1, 0, 0)
noncomputable def mi_h70 : mi_M := (yX7_goToNextOrder, 823, 5, (some .boolean), 7, 0, 1, 0, 0)
noncomputable def mi_h71 : mi_M := (yX7_smallestRing, 839, 4, (some .int), 7, 0, 1, 0, 0)
noncomputable def mi_h72 : mi_M := (yX7_whoGainsMost, 844, 6, (some .int), 7, 1, 1, 0, 0)
noncomputable def mi_h73 : mi_M := (yX7_firstUnlike, 855, 3, (some .int), 7, 1, 1, 0, 0)
noncomputable def mi_h74 : mi_M := (yX7_thirdsThatFit, 864, 5, (some .int), 7, 2, 1, 0, 0)
noncomputable def mi_h75 : mi_M := (yX7_buyersThatFit, 869, 6, (some .int), 7, 3, 1, 0, 0)
noncomputable def mi_h76 : mi_M := (yX7_wantsThatFit, 873, 6, (some .int), 7, 3, 1, 0, 0)
noncomputable def mi_h77 : mi_M := (yX7_playTurns, 888, 9, none, 7, 4, 1, 0, 0)
noncomputable def mi_h78 : mi_M := (yX7_draw, 898, 7, (some .int), 7, 4, 1, 0, 0)
noncomputable def mi_h79 : mi_M := (yX8_init, 104, 2, none, 8, 0, 2, 115, 2902)
noncomputable def mi_h80 : mi_M := (yX8_buyer, 433, 3, (some .int), 8, 2, 1, 0, 0)
noncomputable def mi_h81 : mi_M := (yX8_buyers, 451, 7, (some .int), 8, 3, 1, 0, 0)
noncomputable def mi_h82 : mi_M := (yX8_addFromThree, 462, 6, (some .boolean), 8, 2, 1, 0, 0)
noncomputable def mi_h83 : mi_M := (yX8_mend, 466, 5, (some .int), 8, 3, 1, 0, 0)
noncomputable def mi_h84 : mi_M := (yX8_of, 506, 3, (some .int), 8, 2, 1, 0, 0)
noncomputable def mi_h85 : mi_M := (yX8_feed, 510, 2, (some .int), 8, 1, 1, 0, 0)
noncomputable def mi_h86 : mi_M := (yX8_law, 518, 2, (some .int), 8, 0, 1, 0, 0)
noncomputable def mi_h87 : mi_M := (yX8_book, 671, 3, (some .int), 8, 2, 1, 0, 0)
noncomputable def mi_h88 : mi_M := (yX8_market, 675, 5, (some .int), 8, 3, 1, 0, 0)
noncomputable def mi_h89 : mi_M := (yX8_coming, 750, 5, (some .int), 8, 3, 1, 0, 0)
noncomputable def mi_h90 : mi_M := (yX8_later, 754, 5, (some .int), 8, 3, 1, 0, 0)
noncomputable def mi_h91 : mi_M := (yX8_onceMore, 771, 6, (some .int), 8, 3, 1, 0, 0)
noncomputable def mi_h92 : mi_M := (yX8_hired, 793, 7, (some .int), 8, 4, 1, 0, 0)
noncomputable def mi_h93 : mi_M := (yX8_latch, 801, 6, (some .int), 8, 3, 1, 0, 0)
noncomputable def mi_h94 : mi_M := (yX8_order, 809, 5, (some .int), 8, 3, 1, 0, 0)
noncomputable def mi_h95 : mi_M := (yX8_flow, 827, 4, (some .int), 8, 2, 1, 0, 0)
noncomputable def mi_h96 : mi_M := (yX8_round, 835, 4, (some .int), 8, 2, 1, 0, 0)
noncomputable def mi_h97 : mi_M := (yX8_judge, 848, 3, (some .int), 8, 1, 1, 0, 0)
noncomputable def mi_h98 : mi_M := (yX8_fits, 860, 6, (some .int), 8, 3, 1, 0, 0)
noncomputable def mi_h99 : mi_M := (yX8_leastBit, 879, 2, (some .int), 8, 1, 0, 0, 0)
noncomputable def mi_h100 : mi_M := (yX8_byTurns, 883, 6, (some .int), 8, 3, 1, 0, 0)
noncomputable def mi_h101 : mi_M := (yX8_drawn, 894, 10, (some .int), 8, 3, 1, 0, 0)
noncomputable def mi_h102 : mi_M := (yX8_comes, 903, 2, (some .int), 8, 1, 1, 0, 0)
noncomputable def mi_h103 : mi_M := (yX8_evening, 908, 1, (some .int), 8, 0, 1, 0, 0)
noncomputable def mi_h104 : mi_M := (yX8_gives, 913, 4, (some .int), 8, 3, 1, 0, 0)
noncomputable def mi_h105 : mi_M := (yX8_led, 918, 2, (some .int), 8, 1, 1, 0, 0)
noncomputable def mi_h106 : mi_M := (yX8_image, 922, 1, (some .int), 8, 0, 1, 0, 0)
noncomputable def mi_h107 : mi_M := (yX8_back, 927, 1, (some .int), 8, 0, 1, 0, 0)
noncomputable def mi_h108 : mi_M := (yX8_undo, 931, 2, (some .int), 8, 0, 1, 0, 0)
noncomputable def mi_h109 : mi_M := (yX8_redo, 935, 2, (some .int), 8, 0, 1, 0, 0)
noncomputable def mi_h110 : mi_M := (yX8_body, 939, 2, (some .int), 8, 1, 1, 0, 0)
noncomputable def mi_h111 : mi_M := (yX8_act, 947, 4, (some .int), 8, 3, 1, 0, 0)
noncomputable def mi_h112 : mi_M := (yX8_trace, 974, 2, (some .int), 8, 1, 1, 0, 0)
noncomputable def mi_h113 : mi_M := (yX8_keep, 978, 3, (some .int), 8, 2, 1, 0, 0)
noncomputable def mi_h114 : mi_M := (yX8_row, 987, 4, (some .int), 8, 3, 1, 0, 0)
noncomputable def mi_h115 : mi_M := (yX8_put, 997, 6, (some .int), 8, 3, 1, 0, 0)
noncomputable def mi_h116 : mi_M := (yX8_element, 1009, 3, (some .long), 8, 2, 1, 0, 0)
noncomputable def mi_h117 : mi_M := (yX8_shift, 1014, 8, (some .int), 8, 5, 1, 0, 0)
noncomputable def mi_h118 : mi_M := (yX8_taken, 1023, 5, (some .int), 8, 2, 1, 0, 0)
noncomputable def mi_h119 : mi_M := (yX8_count, 1030, 2, (some .int), 8, 1, 1, 0, 0)
noncomputable def mi_h120 : mi_M := (yX8_within, 439, 3, (some .boolean), 8, 3, 0, 0, 0)
noncomputable def mi_h121 : mi_M := (yX8_isShelf, 454, 1, (some .boolean), 8, 1, 0, 0, 0)
noncomputable def mi_h122 : mi_M := (yX8_areShelves, 851, 1, (some .boolean), 8, 1, 0, 0, 0)
noncomputable def mi_h123 : mi_M := (yX8_isBuyer, 474, 2, (some .boolean), 8, 1, 1, 0, 0)
noncomputable def mi_h124 : mi_M := (yX8_isPair, 831, 2, (some .boolean), 8, 1, 1, 0, 0)
noncomputable def mi_h125 : mi_M := (yX8_isTold, 470, 3, (some .boolean), 8, 2, 1, 0, 0)
noncomputable def mi_h126 : mi_M := (yX8_isNumber, 436, 2, (some .boolean), 8, 2, 0, 0, 0)
noncomputable def mi_h127 : mi_M := (yX8_refusalOfBytes, 683, 2, (some .int), 8, 1, 1, 0, 0)
noncomputable def mi_h128 : mi_M := (yX8_refusalOfCell, 1001, 4, (some .int), 8, 2, 1, 0, 0)
noncomputable def mi_h129 : mi_M := (yX8_plan, 679, 3, (some .int), 8, 1, 1, 0, 0)
noncomputable def mi_h130 : mi_M := (yX9_init, 1035, 2, none, 9, 0, 2, 32, 2199)
noncomputable def mi_h131 : mi_M := (yX9_within, 1206, 3, (some .boolean), 9, 3, 0, 0, 0)
noncomputable def mi_h132 : mi_M := (yX9_isBuyer, 1234, 2, (some .boolean), 9, 1, 1, 0, 0)
noncomputable def mi_h133 : mi_M := (yX9_isShelf, 1217, 1, (some .boolean), 9, 1, 0, 0, 0)
noncomputable def mi_h134 : mi_M := (yX9_newBuyer, 1210, 4, (some .int), 9, 3, 1, 0, 0)
noncomputable def mi_h135 : mi_M := (yX9_buyer, 1203, 3, (some .int), 9, 2, 1, 0, 0)
noncomputable def mi_h136 : mi_M := (yX9_buyers, 1214, 9, (some .int), 9, 3, 1, 0, 0)
noncomputable def mi_h137 : mi_M := (yX9_toldAt, 1222, 3, (some .int), 9, 2, 1, 0, 0)
noncomputable def mi_h138 : mi_M := (yX9_isOf, 1230, 3, (some .boolean), 9, 2, 1, 0, 0)
noncomputable def mi_h139 : mi_M := (yX9_isFit, 1237, 2, (some .boolean), 9, 2, 0, 0, 0)
noncomputable def mi_h140 : mi_M := (yX9_get, 1241, 3, (some .int), 9, 2, 1, 0, 0)
noncomputable def mi_h141 : mi_M := (yX9_becomes, 1245, 4, none, 9, 3, 1, 0, 0)
noncomputable def mi_h142 : mi_M := (yX9_mend, 1226, 6, (some .int), 9, 3, 1, 0, 0)
noncomputable def mi_h143 : mi_M := (yX9_of, 1249, 3, (some .int), 9, 2, 1, 0, 0)
noncomputable def mi_h144 : mi_M := (yX9_undo, 1253, 1, (some .int), 9, 0, 1, 0, 0)
noncomputable def mi_h145 : mi_M := (yX9_redo, 1257, 1, (some .int), 9, 0, 1, 0, 0)
noncomputable def mi_h146 : mi_M := (yX9_feed, 1261, 2, (some .int), 9, 1, 1, 0, 0)
noncomputable def mi_h147 : mi_M := (yX9_sign, 1301, 1, (some .int), 9, 0, 1, 0, 0)
noncomputable def mi_h148 : mi_M := (yX9_is, 1312, 2, (some .boolean), 9, 1, 1, 0, 0)
noncomputable def mi_h149 : mi_M := (yX9_codes, 1305, 2, (some .boolean), 9, 1, 1, 0, 0)
noncomputable def mi_h150 : mi_M := (yX9_isDigit, 1297, 1, (some .boolean), 9, 0, 1, 0, 0)
noncomputable def mi_h151 : mi_M := (yX9_nameOf, 1308, 1, (some .int), 9, 1, 0, 0, 0)
noncomputable def mi_h152 : mi_M := (yX9_isO, 1293, 3, (some .boolean), 9, 0, 1, 0, 0)
noncomputable def mi_h153 : mi_M := (yX9_isP, 1289, 2, (some .boolean), 9, 0, 1, 0, 0)
noncomputable def mi_h154 : mi_M := (yX9_isS, 1285, 2, (some .boolean), 9, 0, 1, 0, 0)
noncomputable def mi_h155 : mi_M := (yX9_isB, 1281, 2, (some .boolean), 9, 0, 1, 0, 0)
noncomputable def mi_h156 : mi_M := (yX9_isA, 1277, 1, (some .boolean), 9, 0, 1, 0, 0)
noncomputable def mi_h157 : mi_M := (yX9_isE, 1273, 1, (some .boolean), 9, 0, 1, 0, 0)
noncomputable def mi_h158 : mi_M := (yX9_isLine, 1269, 1, (some .boolean), 9, 0, 1, 0, 0)
noncomputable def mi_h159 : mi_M := (yX9_law, 1265, 4, (some .int), 9, 0, 1, 0, 0)
noncomputable def mi_h160 : mi_M := (yX9_both, 1364, 3, (some .int), 9, 3, 0, 0, 0)
noncomputable def mi_h161 : mi_M := (yX9_worked, 1361, 6, (some .int), 9, 2, 1, 0, 0)
noncomputable def mi_h162 : mi_M := (yX9_byLaw, 1357, 3, (some .int), 9, 1, 1, 0, 0)
noncomputable def mi_h163 : mi_M := (yX9_buysFor, 1353, 4, (some .int), 9, 2, 1, 0, 0)
noncomputable def mi_h164 : mi_M := (yX9_book, 1316, 3, (some .int), 9, 2, 1, 0, 0)
noncomputable def mi_h165 : mi_M := (yX9_pays, 1348, 5, none, 9, 1, 1, 0, 0)
noncomputable def mi_h166 : mi_M := (yX9_goesIn, 1344, 3, (some .boolean), 9, 1, 1, 0, 0)
noncomputable def mi_h167 : mi_M := (yX9_ends, 1381, 2, none, 9, 0, 1, 0, 0)
noncomputable def mi_h168 : mi_M := (yX9_keeps, 1336, 4, none, 9, 2, 1, 0, 0)
noncomputable def mi_h169 : mi_M := (yX9_laysBack, 1369, 4, none, 9, 2, 1, 0, 0)
noncomputable def mi_h170 : mi_M := (yX9_goes, 1340, 2, none, 9, 0, 1, 0, 0)
noncomputable def mi_h171 : mi_M := (yX9_begins, 1332, 2, none, 9, 0, 1, 0, 0)
noncomputable def mi_h172 : mi_M := (yX9_purseBehind, 1393, 3, (some .int), 9, 1, 1, 0, 0)
noncomputable def mi_h173 : mi_M := (yX9_noBytes, 1324, 2, (some .int), 9, 1, 1, 0, 0)
noncomputable def mi_h174 : mi_M := (yX9_reads, 1328, 2, none, 9, 1, 1, 0, 0)
noncomputable def mi_h175 : mi_M := (yX9_market, 1320, 6, (some .int), 9, 3, 1, 0, 0)
noncomputable def mi_h176 : mi_M := (yX9_coming, 1373, 5, (some .int), 9, 3, 1, 0, 0)
noncomputable def mi_h177 : mi_M := (yX9_later, 1377, 6, (some .int), 9, 3, 1, 0, 0)
noncomputable def mi_h178 : mi_M := (yX9_puts, 1389, 4, none, 9, 2, 1, 0, 0)
noncomputable def mi_h179 : mi_M := (yX9_takes, 1397, 3, none, 9, 1, 1, 0, 0)
noncomputable def mi_h180 : mi_M := (yX9_onceMore, 1385, 10, (some .int), 9, 3, 1, 0, 0)
noncomputable def mi_h181 : mi_M := (yX9_hired, 1401, 10, (some .int), 9, 4, 1, 0, 0)
noncomputable def mi_h182 : mi_M := (yX9_swaps, 1409, 3, none, 9, 1, 1, 0, 0)
noncomputable def mi_h183 : mi_M := (yX9_latch, 1405, 9, (some .int), 9, 3, 1, 0, 0)
noncomputable def mi_h184 : mi_M := (yX9_orders, 1418, 6, none, 9, 3, 1, 0, 0)
noncomputable def mi_h185 : mi_M := (yX9_order, 1413, 4, (some .int), 9, 3, 1, 0, 0)
noncomputable def mi_h186 : mi_M := (yX9_isPair, 1426, 2, (some .boolean), 9, 1, 1, 0, 0)
noncomputable def mi_h187 : mi_M := (yX9_flow, 1422, 4, (some .int), 9, 2, 1, 0, 0)
noncomputable def mi_h188 : mi_M := (yX9_ring, 1434, 3, (some .int), 9, 0, 1, 0, 0)
noncomputable def mi_h189 : mi_M := (yX9_round, 1430, 6, (some .int), 9, 2, 1, 0, 0)
noncomputable def mi_h190 : mi_M := (yX9_areShelves, 1442, 2, (some .boolean), 9, 1, 1, 0, 0)
noncomputable def mi_h191 : mi_M := (yX9_noRows, 1446, 3, (some .int), 9, 1, 1, 0, 0)
noncomputable def mi_h192 : mi_M := (yX9_unlike, 1450, 3, (some .int), 9, 1, 1, 0, 0)
noncomputable def mi_h193 : mi_M := (yX9_judge, 1438, 3, (some .int), 9, 1, 1, 0, 0)
noncomputable def mi_h194 : mi_M := (yX9_thirds, 1458, 5, (some .int), 9, 1, 1, 0, 0)
noncomputable def mi_h195 : mi_M := (yX9_whose, 1462, 6, (some .int), 9, 2, 1, 0, 0)
noncomputable def mi_h196 : mi_M := (yX9_wanted, 1466, 8, (some .int), 9, 3, 1, 0, 0)
noncomputable def mi_h197 : mi_M := (yX9_fits, 1454, 5, (some .int), 9, 3, 1, 0, 0)
noncomputable def mi_h198 : mi_M := (yX9_comesAt, 1479, 6, (some .int), 9, 4, 1, 0, 0)
noncomputable def mi_h199 : mi_M := (yX9_turnFrom, 1475, 7, (some .int), 9, 4, 1, 0, 0)
noncomputable def mi_h200 : mi_M := (yX9_byTurns, 1470, 6, (some .int), 9, 3, 1, 0, 0)
noncomputable def mi_h201 : mi_M := (yX9_drawn, 1483, 8, (some .int), 9, 3, 1, 0, 0)
noncomputable def mi_h202 : mi_M := (yX9_comes, 1488, 2, (some .int), 9, 1, 1, 0, 0)
noncomputable def mi_h203 : mi_M := (yX9_evening, 1492, 1, (some .int), 9, 0, 1, 0, 0)
noncomputable def mi_h204 : mi_M := (yX9_gives, 1496, 4, (some .int), 9, 3, 1, 0, 0)
noncomputable def mi_h205 : mi_M := (yX9_led, 1500, 2, (some .int), 9, 1, 1, 0, 0)
noncomputable def mi_h206 : mi_M := (yX9_image, 1504, 2, (some .int), 9, 0, 1, 0, 0)
noncomputable def mi_h207 : mi_M := (yX9_back, 1508, 3, (some .int), 9, 0, 1, 0, 0)
noncomputable def mi_h208 : mi_M := (yX9_above, 1527, 1, (some .int), 9, 1, 0, 0, 0)
noncomputable def mi_h209 : mi_M := (yX9_ran, 1524, 2, none, 9, 1, 1, 0, 0)
noncomputable def mi_h210 : mi_M := (yX9_comesBy, 1520, 4, (some .int), 9, 3, 1, 0, 0)
noncomputable def mi_h211 : mi_M := (yX9_owesBy, 1531, 5, (some .int), 9, 3, 1, 0, 0)
noncomputable def mi_h212 : mi_M := (yX9_paysBy, 1535, 5, (some .int), 9, 3, 1, 0, 0)
noncomputable def mi_h213 : mi_M := (yX9_tells, 1539, 5, (some .int), 9, 3, 1, 0, 0)
noncomputable def mi_h214 : mi_M := (yX9_body, 1512, 2, (some .int), 9, 1, 1, 0, 0)
noncomputable def mi_h215 : mi_M := (yX9_act, 1516, 5, (some .int), 9, 3, 1, 0, 0)
noncomputable def mi_h216 : mi_M := (yX9_trace, 1543, 2, (some .int), 9, 1, 1, 0, 0)
noncomputable def mi_h217 : mi_M := (yX9_keep, 1547, 3, (some .int), 9, 2, 1, 0, 0)
noncomputable def mi_h218 : mi_M := (yX9_row, 1551, 5, (some .int), 9, 3, 1, 0, 0)
noncomputable def mi_h219 : mi_M := (yX9_isRow, 1559, 2, (some .boolean), 9, 1, 1, 0, 0)
noncomputable def mi_h220 : mi_M := (yX9_kept, 1562, 3, (some .long), 9, 2, 0, 0, 0)
noncomputable def mi_h221 : mi_M := (yX9_put, 1555, 5, (some .int), 9, 3, 1, 0, 0)
noncomputable def mi_h222 : mi_M := (yX9_element, 1566, 3, (some .long), 9, 2, 1, 0, 0)
noncomputable def mi_h223 : mi_M := (yX9_shift, 1571, 7, (some .int), 9, 5, 1, 0, 0)
noncomputable def mi_h224 : mi_M := (yX9_taken, 1575, 5, (some .int), 9, 2, 1, 0, 0)
noncomputable def mi_h225 : mi_M := (yX9_count, 1579, 2, (some .int), 9, 1, 1, 0, 0)
noncomputable def mi_h226 : mi_M := (yJ6_bitCount_0f7a4, 812, 1, (some .int), 203, 1, 0, 0, 0)
noncomputable def mi_h227 : mi_M := (yJ0_length_8abf5, 170, 1, (some .int), 100, 0, 1, 0, 0)
noncomputable def mi_h228 : mi_M := (yJ0_indexOf_0f7a4, 578, 2, (some .int), 100, 1, 1, 0, 0)
noncomputable def mi_h229 : mi_M := (yJ0_indexOf_7cf53, 582, 3, (some .int), 100, 2, 1, 0, 0)
noncomputable def mi_h230 : mi_M := (yJ0_coder_7d493, 174, 1, (some .byte), 100, 0, 1, 0, 0)
noncomputable def mi_h231 : mi_M := (yJ0_isLatin1_aae02, 586, 1, (some .boolean), 100, 0, 1, 0, 0)
noncomputable def mi_h232 : mi_M := (yJ1_canEncode_9a6ad, 593, 1, (some .boolean), 201, 1, 0, 0, 0)
noncomputable def mi_h233 : mi_M := (yJ1_indexOf_4cfef, 590, 4, (some .int), 201, 4, 0, 0, 0)
noncomputable def mi_h234 : mi_M := (yJ1_indexOfChar_4cfef, 602, 6, (some .int), 201, 4, 0, 0, 0)
noncomputable def mi_h235 : mi_M := (yL_law, 99999, 4, (some .boolean), 204, 1, 3, 149, 5163)
noncomputable def mi_hq0 : List (mi_M × Nat × Nat × Nat) := [(mi_h0, 84, 117, 0), (mi_h1, 84, 744, 745), (mi_h2, 84, 721, 722), (mi_h3, 84, 704, 705), (mi_h4, 88, 298, 0), (mi_h5, 88, 493, 494), (mi_h6, 88, 498, 4), (mi_h7, 89, 329, 0), (mi_h8, 89, 953, 954), (mi_h9, 89, 941, 942), (mi_h10, 89, 1025, 0), (mi_h11, 89, 961, 0), (mi_h12, 89, 949, 950), (mi_h13, 89, 958, 28), (mi_h14, 89, 969, 29), (mi_h15, 85, 140, 0), (mi_h16, 85, 524, 525), (mi_h17, 85, 567, 568), (mi_h18, 85, 661, 662), (mi_h19, 85, 734, 21), (mi_h20, 85, 738, 22), (mi_h21, 85, 729, 730), (mi_h22, 85, 741, 0), (mi_h23, 83, 111, 0), (mi_h24, 83, 476, 477), (mi_h25, 83, 445, 446), (mi_h26, 83, 486, 3), (mi_h27, 83, 480, 481), (mi_h28, 83, 489, 490), (mi_h29, 83, 713, 714), (mi_h30, 83, 718, 19), (mi_h31, 83, 726, 20), (mi_h32, 83, 760, 761), (mi_h33, 83, 697, 698), (mi_h34, 83, 693, 694), (mi_h35, 91, 378, 0), (mi_h36, 91, 456, 457), (mi_h37, 91, 1016, 1017), (mi_h38, 91, 981, 982), (mi_h39, 91, 989, 990)]
noncomputable def mi_hq1 : List (mi_M × Nat × Nat × Nat) := [(mi_h40, 91, 1003, 1004), (mi_h41, 90, 354, 0), (mi_h42, 90, 512, 513), (mi_h43, 90, 665, 666), (mi_h44, 90, 520, 521), (mi_h45, 90, 557, 12), (mi_h46, 90, 655, 15), (mi_h47, 90, 573, 14), (mi_h48, 90, 529, 5), (mi_h49, 90, 533, 6), (mi_h50, 90, 537, 7), (mi_h51, 90, 541, 8), (mi_h52, 90, 545, 9), (mi_h53, 90, 549, 10), (mi_h54, 90, 553, 11), (mi_h55, 90, 564, 13), (mi_h56, 90, 560, 0), (mi_h57, 87, 250, 0), (mi_h58, 87, 685, 686), (mi_h59, 87, 689, 690), (mi_h60, 87, 710, 18), (mi_h61, 87, 756, 757), (mi_h62, 87, 764, 765), (mi_h63, 87, 783, 24), (mi_h64, 87, 788, 25), (mi_h65, 87, 778, 23), (mi_h66, 87, 773, 774), (mi_h67, 87, 795, 796), (mi_h68, 87, 803, 804), (mi_h69, 87, 817, 818), (mi_h70, 87, 822, 26), (mi_h71, 87, 837, 838), (mi_h72, 87, 842, 843), (mi_h73, 87, 853, 854), (mi_h74, 87, 862, 863), (mi_h75, 87, 867, 868), (mi_h76, 87, 871, 872), (mi_h77, 87, 886, 887), (mi_h78, 87, 896, 897), (mi_h79, 82, 103, 0)]
noncomputable def mi_hq2 : List (mi_M × Nat × Nat × Nat) := [(mi_h80, 82, 431, 432), (mi_h81, 82, 449, 450), (mi_h82, 82, 461, 0), (mi_h83, 82, 464, 465), (mi_h84, 82, 504, 505), (mi_h85, 82, 508, 509), (mi_h86, 82, 516, 517), (mi_h87, 82, 669, 670), (mi_h88, 82, 673, 674), (mi_h89, 82, 748, 749), (mi_h90, 82, 752, 753), (mi_h91, 82, 769, 770), (mi_h92, 82, 791, 792), (mi_h93, 82, 799, 800), (mi_h94, 82, 807, 808), (mi_h95, 82, 825, 826), (mi_h96, 82, 833, 834), (mi_h97, 82, 846, 847), (mi_h98, 82, 858, 859), (mi_h99, 82, 878, 0), (mi_h100, 82, 881, 882), (mi_h101, 82, 892, 893), (mi_h102, 82, 901, 902), (mi_h103, 82, 906, 907), (mi_h104, 82, 911, 912), (mi_h105, 82, 916, 917), (mi_h106, 82, 920, 921), (mi_h107, 82, 925, 926), (mi_h108, 82, 929, 930), (mi_h109, 82, 933, 934), (mi_h110, 82, 937, 938), (mi_h111, 82, 945, 946), (mi_h112, 82, 972, 973), (mi_h113, 82, 976, 977), (mi_h114, 82, 985, 986), (mi_h115, 82, 995, 996), (mi_h116, 82, 1007, 1008), (mi_h117, 82, 1012, 1013), (mi_h118, 82, 1021, 1022), (mi_h119, 82, 1028, 1029)]
noncomputable def mi_hq3 : List (mi_M × Nat × Nat × Nat) := [(mi_h120, 82, 438, 0), (mi_h121, 82, 453, 0), (mi_h122, 82, 850, 0), (mi_h123, 82, 473, 2), (mi_h124, 82, 830, 27), (mi_h125, 82, 469, 1), (mi_h126, 82, 435, 0), (mi_h127, 82, 682, 17), (mi_h128, 82, 1000, 30), (mi_h129, 82, 678, 16), (mi_h130, 92, 1034, 0), (mi_h131, 92, 1205, 0), (mi_h132, 92, 1233, 34), (mi_h133, 92, 1216, 0), (mi_h134, 92, 1209, 31), (mi_h135, 92, 1201, 1202), (mi_h136, 92, 1212, 1213), (mi_h137, 92, 1221, 32), (mi_h138, 92, 1229, 33), (mi_h139, 92, 1236, 0), (mi_h140, 92, 1240, 35), (mi_h141, 92, 1244, 36), (mi_h142, 92, 1224, 1225), (mi_h143, 92, 1247, 1248), (mi_h144, 92, 1251, 1252), (mi_h145, 92, 1255, 1256), (mi_h146, 92, 1259, 1260), (mi_h147, 92, 1300, 45), (mi_h148, 92, 1311, 47), (mi_h149, 92, 1304, 46), (mi_h150, 92, 1296, 44), (mi_h151, 92, 1307, 0), (mi_h152, 92, 1292, 43), (mi_h153, 92, 1288, 42), (mi_h154, 92, 1284, 41), (mi_h155, 92, 1280, 40), (mi_h156, 92, 1276, 39), (mi_h157, 92, 1272, 38), (mi_h158, 92, 1268, 37), (mi_h159, 92, 1263, 1264)]
noncomputable def mi_hq4 : List (mi_M × Nat × Nat × Nat) := [(mi_h160, 92, 1363, 0), (mi_h161, 92, 1360, 57), (mi_h162, 92, 1356, 56), (mi_h163, 92, 1352, 55), (mi_h164, 92, 1314, 1315), (mi_h165, 92, 1347, 54), (mi_h166, 92, 1343, 53), (mi_h167, 92, 1380, 59), (mi_h168, 92, 1335, 51), (mi_h169, 92, 1368, 58), (mi_h170, 92, 1339, 52), (mi_h171, 92, 1331, 50), (mi_h172, 92, 1392, 61), (mi_h173, 92, 1323, 48), (mi_h174, 92, 1327, 49), (mi_h175, 92, 1318, 1319), (mi_h176, 92, 1371, 1372), (mi_h177, 92, 1375, 1376), (mi_h178, 92, 1388, 60), (mi_h179, 92, 1396, 62), (mi_h180, 92, 1383, 1384), (mi_h181, 92, 1399, 1400), (mi_h182, 92, 1408, 63), (mi_h183, 92, 1403, 1404), (mi_h184, 92, 1417, 64), (mi_h185, 92, 1411, 1412), (mi_h186, 92, 1425, 65), (mi_h187, 92, 1420, 1421), (mi_h188, 92, 1433, 66), (mi_h189, 92, 1428, 1429), (mi_h190, 92, 1441, 67), (mi_h191, 92, 1445, 68), (mi_h192, 92, 1449, 69), (mi_h193, 92, 1436, 1437), (mi_h194, 92, 1457, 70), (mi_h195, 92, 1461, 71), (mi_h196, 92, 1465, 72), (mi_h197, 92, 1452, 1453), (mi_h198, 92, 1478, 74), (mi_h199, 92, 1474, 73)]
noncomputable def mi_hq5 : List (mi_M × Nat × Nat × Nat) := [(mi_h200, 92, 1468, 1469), (mi_h201, 92, 1481, 1482), (mi_h202, 92, 1486, 1487), (mi_h203, 92, 1490, 1491), (mi_h204, 92, 1494, 1495), (mi_h205, 92, 1498, 1499), (mi_h206, 92, 1502, 1503), (mi_h207, 92, 1506, 1507), (mi_h208, 92, 1526, 0), (mi_h209, 92, 1523, 76), (mi_h210, 92, 1519, 75), (mi_h211, 92, 1530, 77), (mi_h212, 92, 1534, 78), (mi_h213, 92, 1538, 79), (mi_h214, 92, 1510, 1511), (mi_h215, 92, 1514, 1515), (mi_h216, 92, 1541, 1542), (mi_h217, 92, 1545, 1546), (mi_h218, 92, 1549, 1550), (mi_h219, 92, 1558, 80), (mi_h220, 92, 1561, 0), (mi_h221, 92, 1553, 1554), (mi_h222, 92, 1564, 1565), (mi_h223, 92, 1569, 1570), (mi_h224, 92, 1573, 1574), (mi_h225, 92, 1577, 1578), (mi_h226, 99, 811, 0), (mi_h227, 86, 168, 169), (mi_h228, 86, 576, 577), (mi_h229, 86, 580, 581), (mi_h230, 86, 172, 173), (mi_h231, 86, 584, 585), (mi_h232, 94, 592, 0), (mi_h233, 94, 589, 0), (mi_h234, 94, 601, 0), (mi_h235, 81, 0, 0)]
noncomputable def mi_hqs : List (mi_M × Nat × Nat × Nat) := mi_hq0 ++ (mi_hq1 ++ (mi_hq2 ++ (mi_hq3 ++ (mi_hq4 ++ (mi_hq5)))))
noncomputable def mi_heads : List mi_M := mi_hqs.map (fun q => q.1)
noncomputable def mi_cname (ci : Nat) : String := match ci with
  | 100 => "java/lang/String"
  | 201 => "java/lang/StringLatin1"
  | 202 => "java/lang/Math"
  | 203 => "java/lang/Integer"
  | 204 => "ThirdAfterLaw"
  | _ => match vwCl[ci]? with
    | some c => c.1
    | none => ""
/-- the words of a head, by their places: its class initialized, static or instanceMethod, selects (of a virtual one) -/
noncomputable def mi_mB (r : mi_M) (p1 p2 p3 : Nat) : Bool := match r.2.2.2.2.2.2.1 with
  | 3 => true
  | k => mi_isC r.2.1 r.1 r.2.2.1 r.2.2.2.1 && !(Nat.beq r.2.1 99999) && mi_wd p1 (.initialized r.1.cls) && (match k with
    | 0 => mi_wd p2 (.static r.1)
    | 1 => mi_wd p2 (.instanceMethod r.1) && mi_wd p3 (.selects r.1.cls r.1 r.1)
    | _ => mi_wd p2 (.instanceMethod r.1) && decide (r.1.name = "<init>") && decide (r.2.2.2.1 = none)) && plainName r.1.cls && decide (r.1.cls ≠ "java/lang/invoke/MethodHandle") && decide (r.1.cls ≠ "java/lang/invoke/VarHandle") && decide ((parseMethodDescriptor r.1.desc).map (fun d => d.parameters.length) = some r.2.2.2.2.2.1) && Nat.ble r.2.2.1 40 && decide (mi_cname r.2.2.2.2.1 = r.1.cls)

theorem mi_hz0 : (mi_hq0.all fun q => mi_mB q.1 q.2.1 q.2.2.1 q.2.2.2) = true := by decide +kernel
theorem mi_hz1 : (mi_hq1.all fun q => mi_mB q.1 q.2.1 q.2.2.1 q.2.2.2) = true := by decide +kernel
theorem mi_hz2 : (mi_hq2.all fun q => mi_mB q.1 q.2.1 q.2.2.1 q.2.2.2) = true := by decide +kernel
theorem mi_hz3 : (mi_hq3.all fun q => mi_mB q.1 q.2.1 q.2.2.1 q.2.2.2) = true := by decide +kernel
theorem mi_hz4 : (mi_hq4.all fun q => mi_mB q.1 q.2.1 q.2.2.1 q.2.2.2) = true := by decide +kernel
theorem mi_hz5 : (mi_hq5.all fun q => mi_mB q.1 q.2.1 q.2.2.1 q.2.2.2) = true := by decide +kernel
theorem mi_hz : ∀ q ∈ mi_hqs, mi_mB q.1 q.2.1 q.2.2.1 q.2.2.2 = true := by
  intro q hq
  unfold mi_hqs at hq
  simp only [List.mem_append] at hq
  rcases hq with h | h | h | h | h | h
  · exact List.all_eq_true.mp mi_hz0 q h
  · exact List.all_eq_true.mp mi_hz1 q h
  · exact List.all_eq_true.mp mi_hz2 q h
  · exact List.all_eq_true.mp mi_hz3 q h
  · exact List.all_eq_true.mp mi_hz4 q h
  · exact List.all_eq_true.mp mi_hz5 q h
theorem mi_head_in {y : Nat} {r : mi_M} (h : mi_heads[y]? = some r) : ∃ p1 p2 p3, mi_mB r p1 p2 p3 = true := by
  obtain ⟨q, hq, rfl⟩ := List.mem_map.mp (List.mem_of_getElem? h)
  exact ⟨_, _, _, mi_hz q hq⟩
/-- what is so of a method that can be called -/
noncomputable def mi_Mk (r : mi_M) : Prop := Cond.code r.1 (mi_bytes r) r.2.2.1 r.2.2.2.1 ∈ mi_good ∧ Cond.initialized r.1.cls ∈ mi_good ∧ plainName r.1.cls = true ∧ (r.1.cls ≠ "java/lang/invoke/MethodHandle" ∧ r.1.cls ≠ "java/lang/invoke/VarHandle" ∧ (parseMethodDescriptor r.1.desc).map (fun d => d.parameters.length) = some r.2.2.2.2.2.1) ∧ r.2.2.1 ≤ 40 ∧ mi_cname r.2.2.2.2.1 = r.1.cls ∧ (r.2.2.2.2.2.2.1 = 0 → Cond.static r.1 ∈ mi_good) ∧ (r.2.2.2.2.2.2.1 = 1 → Cond.instanceMethod r.1 ∈ mi_good ∧ Cond.selects r.1.cls r.1 r.1 ∈ mi_good) ∧ (r.2.2.2.2.2.2.1 = 2 → Cond.instanceMethod r.1 ∈ mi_good ∧ r.1.name = "<init>" ∧ r.2.2.2.1 = none)
theorem mi_head_ok {y : Nat} {r : mi_M} (h : mi_heads[y]? = some r) (h3 : r.2.2.2.2.2.2.1 ≠ 3) : mi_Mk r := by
  obtain ⟨p1, p2, p3, hb⟩ := mi_head_in h
  unfold mi_mB at hb
  split at hb
  next e => exact absurd e h3
  next k hk =>
    have a1 := mi_b2 hb
    have hb := mi_b1 hb
    have a2 := mi_b2 hb
    have hb := mi_b1 hb
    have a3 := mi_b2 hb
    have hb := mi_b1 hb
    have a4 := mi_b2 hb
    have hb := mi_b1 hb
    have a5 := mi_b2 hb
    have hb := mi_b1 hb
    have a6 := mi_b2 hb
    have hb := mi_b1 hb
    have a7 := mi_b2 hb
    have hb := mi_b1 hb
    have a8 := mi_b2 hb
    have hb := mi_b1 hb
    have a9 := mi_b2 hb
    have a10 := mi_b1 hb
    have hby : mi_bytes r = mi_cb r.2.1 := by
      unfold mi_bytes
      have : Nat.beq r.2.1 99999 = false := by simpa using a9
      rw [this]
    refine ⟨by rw [hby]; exact mi_isC_ok a10, mi_wd_in a8, a6, ⟨of_decide_eq_true a5, of_decide_eq_true a4, of_decide_eq_true a3⟩, Nat.le_of_ble_eq_true a2, of_decide_eq_true a1, fun e => ?_, fun e => ?_, fun e => ?_⟩
    · rw [e] at a7
      exact mi_wd_in a7
    · rw [e] at a7
      exact ⟨mi_wd_in (mi_b1 a7), mi_wd_in (mi_b2 a7)⟩
    · rw [e] at a7
      exact ⟨mi_wd_in (mi_b1 (mi_b1 a7)), of_decide_eq_true (mi_b2 (mi_b1 a7)), of_decide_eq_true (mi_b2 a7)⟩
end
section
/-! links by program: own class, entry, kind, two numbers, a constant. Kinds: 0 field, 1 static, 2 static of a nest mate, 3 class, 5 int[][], 6 int, 7 long, 8 String, 9 method, 10 constructor of a nest mate, 11 arraycopy, 12 Object's constructor, 13 field of String, 14 max, 15 min -/
abbrev mi_K : Type := Nat × Nat × Nat × Nat × Nat × Int
noncomputable def mi_lkB (e : mi_K) (w : Nat) : Bool := match e.2.2.1 with
  | 0 => (match vwCl[e.2.2.2.1]? with | some c => Nat.blt e.2.2.2.2.1 c.2.2 && mi_wd w (.fieldLink (mi_cname e.1) e.2.1 c.1 (c.2.1 e.2.2.2.2.1).2.1 (c.2.1 e.2.2.2.2.1).2.2.1) | none => false)
  | 1 => (match mi_sn[e.2.2.2.1]? with | some z => mi_wd w (.fieldLink (mi_cname e.1) e.2.1 z.1 z.2.1 z.2.2) | none => false)
  | 2 => (match mi_sn[e.2.2.2.1]? with | some z => mi_nestB w (.fieldLinkNest (mi_cname e.1) e.2.1 z.1 z.2.1 z.2.2 "ThirdAfter") | none => false)
  | 3 => (match vwCl[e.2.2.2.1]? with | some c => mi_wd w (.classLink (mi_cname e.1) e.2.1 c.1) | none => false)
  | 5 => mi_wd w (.classLink (mi_cname e.1) e.2.1 "[[I")
  | 6 => mi_wd w (.constant (mi_cname e.1) e.2.1 (Int32.ofInt e.2.2.2.2.2))
  | 7 => mi_wd w (.constantLong (mi_cname e.1) e.2.1 (Int64.ofInt e.2.2.2.2.2))
  | 8 => decide (mi_strs[w]? = some (mi_cname e.1, e.2.1, mi_txt.getD e.2.2.2.1 "", e.2.2.2.1))
  | 9 => (match mi_heads[e.2.2.2.1]? with | some r => mi_wd w (.methodLink (mi_cname e.1) e.2.1 r.1) | none => false)
  | 10 => (match mi_heads[e.2.2.2.1]? with | some r => mi_nestB w (.methodLinkNest (mi_cname e.1) e.2.1 r.1 "ThirdAfter") | none => false)
  | 11 => mi_wd w (.methodLink (mi_cname e.1) e.2.1 arraycopyName)
  | 12 => mi_wd w (.methodLink (mi_cname e.1) e.2.1 objectInit)
  | 13 => (match mi_of[e.2.2.2.2.1]? with | some z => mi_wd w (.fieldLink (mi_cname e.1) e.2.1 "java/lang/String" z.1 z.2) | none => false)
  | 14 => mi_wd w (.methodLink (mi_cname e.1) e.2.1 Lib.Math.max.name)
  | 15 => mi_wd w (.methodLink (mi_cname e.1) e.2.1 Lib.Math.min.name)
  | _ => false
noncomputable def mi_lq0 : List (mi_K × Nat) := [((204, 7, 3, 8, 0, 0), 100), ((204, 9, 9, 79, 0, 0), 102), ((8, 1, 12, 0, 0, 0), 105), ((8, 7, 3, 4, 0, 0), 108), ((8, 9, 10, 23, 0, 0), 0), ((4, 3, 12, 0, 0, 0), 113), ((4, 43, 3, 0, 0, 0), 114), ((4, 45, 10, 0, 0, 0), 1), ((0, 3, 12, 0, 0, 0), 119), ((0, 9, 0, 0, 0, 0), 120), ((4, 108, 0, 0, 0, 0), 121), ((8, 134, 0, 0, 0, 0), 122), ((0, 15, 0, 0, 1, 0), 123), ((4, 111, 0, 0, 1, 0), 124), ((8, 138, 0, 0, 1, 0), 125), ((0, 18, 0, 0, 2, 0), 126), ((4, 93, 0, 0, 2, 0), 127), ((8, 129, 0, 0, 2, 0), 128), ((4, 50, 3, 3, 0, 0), 137), ((4, 52, 10, 15, 0, 0), 2), ((3, 3, 12, 0, 0, 0), 142), ((3, 9, 0, 3, 0, 0), 143), ((6, 43, 0, 3, 0, 0), 144), ((4, 122, 0, 3, 0, 0), 145), ((3, 15, 0, 3, 1, 0), 146), ((3, 19, 0, 3, 2, 0), 147), ((3, 22, 0, 3, 3, 0), 148), ((3, 26, 0, 3, 4, 0), 149), ((3, 29, 0, 3, 5, 0), 150), ((4, 60, 5, 0, 0, 0), 164), ((4, 74, 8, 0, 0, 0), 0), ((4, 76, 9, 227, 0, 0), 167), ((100, 335, 9, 230, 0, 0), 171), ((100, 38, 1, 0, 0, 0), 175), ((4, 9, 0, 4, 0, 0), 177), ((8, 62, 0, 4, 0, 0), 178), ((7, 106, 0, 4, 0, 0), 179), ((4, 15, 0, 4, 1, 0), 180), ((7, 79, 0, 4, 1, 0), 181), ((8, 264, 0, 4, 1, 0), 182), ((4, 19, 0, 4, 2, 0), 183), ((4, 22, 0, 4, 3, 0), 184), ((4, 25, 0, 4, 4, 0), 185), ((4, 28, 0, 4, 5, 0), 186), ((4, 31, 0, 4, 6, 0), 187), ((7, 123, 0, 4, 6, 0), 188), ((4, 34, 0, 4, 7, 0), 189), ((4, 37, 0, 4, 8, 0), 190), ((8, 261, 0, 4, 8, 0), 191), ((4, 40, 0, 4, 9, 0), 192), ((4, 46, 0, 4, 10, 0), 193), ((8, 125, 0, 4, 10, 0), 194), ((4, 53, 0, 4, 11, 0), 195), ((8, 117, 0, 4, 11, 0), 196), ((4, 57, 0, 4, 12, 0), 197), ((7, 82, 0, 4, 12, 0), 198), ((8, 155, 0, 4, 12, 0), 199), ((4, 62, 0, 4, 13, 0), 200), ((7, 113, 0, 4, 13, 0), 201), ((8, 203, 0, 4, 13, 0), 202), ((4, 65, 0, 4, 14, 0), 203), ((7, 67, 0, 4, 14, 0), 204), ((4, 68, 0, 4, 15, 0), 205), ((4, 71, 0, 4, 16, 0), 206), ((7, 70, 0, 4, 16, 0), 207), ((4, 82, 0, 4, 17, 0), 208), ((8, 23, 3, 7, 0, 0), 247), ((8, 25, 10, 57, 0, 0), 3), ((7, 3, 12, 0, 0, 0), 252), ((7, 9, 3, 4, 0, 0), 253), ((7, 11, 10, 23, 0, 0), 4), ((7, 44, 5, 0, 0, 0), 255), ((7, 12, 0, 7, 0, 0), 256), ((8, 152, 0, 7, 0, 0), 257), ((7, 18, 0, 7, 1, 0), 258), ((7, 22, 0, 7, 2, 0), 259), ((8, 151, 0, 7, 2, 0), 260), ((7, 26, 0, 7, 3, 0), 261), ((8, 158, 0, 7, 3, 0), 262), ((7, 29, 0, 7, 4, 0), 263), ((8, 161, 0, 7, 4, 0), 264), ((7, 32, 0, 7, 5, 0), 265), ((8, 164, 0, 7, 5, 0), 266), ((7, 35, 0, 7, 6, 0), 267), ((8, 178, 0, 7, 6, 0), 268), ((7, 38, 0, 7, 7, 0), 269), ((8, 197, 0, 7, 7, 0), 270), ((7, 41, 0, 7, 8, 0), 271), ((8, 243, 0, 7, 8, 0), 272), ((7, 46, 0, 7, 9, 0), 273)]
noncomputable def mi_lq1 : List (mi_K × Nat) := [((8, 30, 3, 1, 0, 0), 295), ((8, 32, 10, 4, 0, 0), 5), ((1, 1, 12, 0, 0, 0), 300), ((1, 9, 0, 1, 0, 0), 301), ((8, 276, 0, 1, 0, 0), 302), ((1, 13, 0, 1, 1, 0), 303), ((8, 278, 0, 1, 1, 0), 304), ((1, 16, 0, 1, 2, 0), 305), ((8, 281, 0, 1, 2, 0), 306), ((1, 19, 0, 1, 3, 0), 307), ((8, 287, 0, 1, 3, 0), 308), ((1, 22, 0, 1, 4, 0), 309), ((8, 284, 0, 1, 4, 0), 310), ((1, 26, 0, 1, 5, 0), 311), ((8, 273, 0, 1, 5, 0), 312), ((8, 37, 3, 2, 0, 0), 326), ((8, 39, 10, 7, 0, 0), 6), ((2, 3, 12, 0, 0, 0), 331), ((2, 11, 0, 2, 0, 0), 332), ((8, 336, 0, 2, 0, 0), 333), ((2, 15, 0, 2, 1, 0), 334), ((8, 290, 0, 2, 1, 0), 335), ((2, 19, 0, 2, 2, 0), 336), ((8, 298, 0, 2, 2, 0), 337), ((2, 22, 0, 2, 3, 0), 338), ((8, 295, 0, 2, 3, 0), 339), ((8, 44, 3, 5, 0, 0), 349), ((8, 50, 3, 6, 0, 0), 351), ((8, 52, 10, 41, 0, 0), 7), ((6, 3, 12, 0, 0, 0), 356), ((6, 26, 3, 3, 0, 0), 357), ((6, 28, 10, 15, 0, 0), 8), ((6, 9, 0, 6, 0, 0), 359), ((6, 15, 0, 6, 1, 0), 360), ((8, 109, 0, 6, 1, 0), 361), ((6, 19, 0, 6, 2, 0), 362), ((6, 22, 0, 6, 3, 0), 363), ((6, 29, 0, 6, 4, 0), 364), ((8, 57, 10, 35, 0, 0), 9), ((5, 3, 12, 0, 0, 0), 380), ((5, 11, 0, 5, 0, 0), 381), ((8, 78, 0, 5, 0, 0), 382), ((5, 15, 0, 5, 1, 0), 383), ((8, 333, 0, 5, 1, 0), 384), ((5, 18, 0, 5, 2, 0), 385), ((8, 321, 0, 5, 2, 0), 386), ((5, 21, 0, 5, 3, 0), 387), ((7, 49, 0, 5, 3, 0), 388), ((8, 88, 0, 5, 3, 0), 389), ((5, 24, 0, 5, 4, 0), 390), ((7, 52, 0, 5, 4, 0), 391), ((8, 91, 0, 5, 4, 0), 392), ((8, 10, 0, 8, 0, 0), 405), ((8, 16, 0, 8, 1, 0), 406), ((8, 19, 0, 8, 2, 0), 407), ((8, 26, 0, 8, 3, 0), 408), ((8, 33, 0, 8, 4, 0), 409), ((8, 40, 0, 8, 5, 0), 410), ((8, 46, 0, 8, 6, 0), 411), ((8, 53, 0, 8, 7, 0), 412), ((204, 13, 9, 80, 0, 0), 430), ((8, 58, 9, 126, 0, 0), 434), ((8, 74, 9, 120, 0, 0), 437), ((8, 345, 1, 1, 0, 0), 440), ((8, 348, 1, 2, 0, 0), 442), ((8, 66, 9, 25, 0, 0), 444), ((204, 18, 9, 81, 0, 0), 448), ((8, 70, 9, 121, 0, 0), 452), ((8, 81, 9, 36, 0, 0), 455), ((8, 84, 9, 82, 0, 0), 459), ((204, 23, 9, 83, 0, 0), 463), ((8, 95, 9, 125, 0, 0), 467), ((8, 141, 9, 123, 0, 0), 471), ((8, 342, 9, 24, 0, 0), 475), ((8, 98, 9, 27, 0, 0), 479), ((4, 85, 9, 24, 0, 0), 483), ((4, 89, 9, 26, 0, 0), 484), ((8, 102, 9, 28, 0, 0), 488), ((8, 106, 9, 5, 0, 0), 492), ((1, 29, 9, 6, 0, 0), 496), ((1, 32, 11, 0, 0, 0), 500), ((204, 27, 9, 84, 0, 0), 503), ((204, 31, 9, 85, 0, 0), 507), ((8, 110, 9, 42, 0, 0), 511), ((204, 36, 9, 86, 0, 0), 515), ((8, 113, 9, 44, 0, 0), 519), ((6, 33, 9, 16, 0, 0), 523), ((6, 36, 9, 48, 0, 0), 527), ((6, 56, 9, 49, 0, 0), 531), ((6, 67, 9, 50, 0, 0), 535)]
noncomputable def mi_lq2 : List (mi_K × Nat) := [((6, 70, 9, 51, 0, 0), 539), ((6, 73, 9, 52, 0, 0), 543), ((6, 82, 9, 53, 0, 0), 547), ((6, 87, 9, 54, 0, 0), 551), ((6, 46, 9, 45, 0, 0), 555), ((6, 92, 9, 56, 0, 0), 559), ((6, 95, 9, 55, 0, 0), 562), ((6, 60, 9, 17, 0, 0), 566), ((6, 98, 8, 0, 0, 0), 1), ((6, 78, 9, 47, 0, 0), 571), ((6, 50, 9, 228, 0, 0), 575), ((100, 633, 9, 229, 0, 0), 579), ((100, 492, 9, 231, 0, 0), 583), ((100, 505, 9, 227, 0, 0), 587), ((100, 637, 9, 233, 0, 0), 588), ((201, 88, 9, 232, 0, 0), 591), ((201, 92, 14, 0, 0, 0), 594), ((201, 38, 15, 0, 0, 0), 597), ((201, 95, 9, 234, 0, 0), 600), ((6, 100, 8, 1, 0, 0), 2), ((6, 39, 9, 46, 0, 0), 653), ((6, 90, 8, 2, 0, 0), 3), ((6, 85, 8, 3, 0, 0), 4), ((6, 76, 8, 4, 0, 0), 5), ((6, 64, 9, 18, 0, 0), 660), ((8, 121, 9, 43, 0, 0), 664), ((204, 41, 9, 87, 0, 0), 668), ((204, 45, 9, 88, 0, 0), 672), ((8, 144, 9, 129, 0, 0), 676), ((8, 217, 9, 127, 0, 0), 680), ((8, 351, 9, 58, 0, 0), 684), ((8, 147, 9, 59, 0, 0), 688), ((7, 56, 9, 34, 0, 0), 692), ((4, 143, 9, 33, 0, 0), 696), ((4, 117, 15, 0, 0, 0), 700), ((4, 130, 14, 0, 0, 0), 701), ((4, 133, 11, 0, 0, 0), 702), ((4, 139, 9, 3, 0, 0), 703), ((0, 22, 11, 0, 0, 0), 707), ((7, 60, 9, 60, 0, 0), 708), ((7, 63, 9, 29, 0, 0), 712), ((4, 96, 9, 30, 0, 0), 716), ((4, 114, 9, 2, 0, 0), 720), ((4, 100, 9, 31, 0, 0), 724), ((4, 126, 9, 21, 0, 0), 728), ((3, 32, 9, 19, 0, 0), 732), ((3, 36, 9, 20, 0, 0), 736), ((3, 40, 9, 22, 0, 0), 740), ((4, 104, 9, 1, 0, 0), 743), ((204, 49, 9, 89, 0, 0), 747), ((204, 53, 9, 90, 0, 0), 751), ((8, 167, 9, 61, 0, 0), 755), ((7, 72, 9, 32, 0, 0), 759), ((8, 171, 9, 62, 0, 0), 763), ((7, 75, 9, 24, 0, 0), 767), ((204, 57, 9, 91, 0, 0), 768), ((8, 174, 9, 66, 0, 0), 772), ((7, 95, 9, 65, 0, 0), 776), ((7, 89, 11, 0, 0, 0), 780), ((7, 99, 9, 63, 0, 0), 781), ((7, 85, 9, 27, 0, 0), 785), ((7, 103, 9, 64, 0, 0), 786), ((204, 61, 9, 92, 0, 0), 790), ((8, 181, 9, 67, 0, 0), 794), ((204, 66, 9, 93, 0, 0), 798), ((8, 185, 9, 68, 0, 0), 802), ((204, 70, 9, 94, 0, 0), 806), ((8, 188, 9, 226, 0, 0), 810), ((203, 265, 6, 0, 0, 1431655765), 813), ((203, 266, 6, 0, 0, 858993459), 814), ((203, 267, 6, 0, 0, 252645135), 815), ((8, 193, 9, 69, 0, 0), 816), ((7, 109, 9, 70, 0, 0), 820), ((204, 74, 9, 95, 0, 0), 824), ((8, 200, 9, 124, 0, 0), 828), ((204, 78, 9, 96, 0, 0), 832), ((8, 207, 9, 71, 0, 0), 836), ((7, 116, 15, 0, 0, 0), 840), ((8, 210, 9, 72, 0, 0), 841), ((204, 82, 9, 97, 0, 0), 845), ((8, 214, 9, 122, 0, 0), 849), ((8, 220, 9, 73, 0, 0), 852), ((7, 121, 7, 0, 0, 9), 856), ((204, 86, 9, 98, 0, 0), 857), ((8, 224, 9, 74, 0, 0), 861), ((7, 126, 9, 73, 0, 0), 865), ((8, 228, 9, 75, 0, 0), 866), ((8, 232, 9, 76, 0, 0), 870), ((7, 130, 2, 1, 0, 0), 10), ((7, 133, 2, 2, 0, 0), 11)]
noncomputable def mi_lq3 : List (mi_K × Nat) := [((7, 136, 9, 28, 0, 0), 876), ((8, 235, 9, 99, 0, 0), 877), ((204, 90, 9, 100, 0, 0), 880), ((8, 238, 6, 0, 0, -2000000000), 884), ((8, 239, 9, 77, 0, 0), 885), ((7, 140, 14, 0, 0, 0), 889), ((8, 246, 14, 0, 0, 0), 890), ((204, 94, 9, 101, 0, 0), 891), ((8, 251, 9, 78, 0, 0), 895), ((7, 143, 6, 0, 0, 1103515245), 899), ((204, 98, 9, 102, 0, 0), 900), ((8, 255, 9, 29, 0, 0), 904), ((204, 102, 9, 103, 0, 0), 905), ((8, 258, 9, 32, 0, 0), 909), ((204, 106, 9, 104, 0, 0), 910), ((8, 267, 15, 0, 0, 0), 914), ((204, 110, 9, 105, 0, 0), 915), ((204, 114, 9, 106, 0, 0), 919), ((8, 270, 9, 33, 0, 0), 923), ((204, 118, 9, 107, 0, 0), 924), ((204, 122, 9, 108, 0, 0), 928), ((204, 126, 9, 109, 0, 0), 932), ((204, 130, 9, 110, 0, 0), 936), ((8, 291, 9, 9, 0, 0), 940), ((204, 134, 9, 111, 0, 0), 944), ((8, 292, 9, 12, 0, 0), 948), ((2, 31, 9, 8, 0, 0), 952), ((2, 35, 9, 13, 0, 0), 956), ((2, 39, 9, 11, 0, 0), 960), ((2, 28, 1, 3, 0, 0), 963), ((2, 25, 1, 4, 0, 0), 965), ((2, 43, 9, 14, 0, 0), 967), ((204, 138, 9, 112, 0, 0), 971), ((204, 142, 9, 113, 0, 0), 975), ((8, 301, 9, 8, 0, 0), 979), ((8, 304, 9, 38, 0, 0), 980), ((204, 146, 9, 114, 0, 0), 984), ((8, 308, 9, 39, 0, 0), 988), ((5, 28, 15, 0, 0, 0), 992), ((5, 34, 14, 0, 0, 0), 993), ((204, 152, 9, 115, 0, 0), 994), ((8, 312, 9, 128, 0, 0), 998), ((8, 315, 9, 40, 0, 0), 1002), ((204, 157, 9, 116, 0, 0), 1006), ((8, 319, 7, 0, 0, -9223372036854775808), 1010), ((204, 162, 9, 117, 0, 0), 1011), ((8, 324, 9, 37, 0, 0), 1015), ((8, 327, 11, 0, 0, 0), 1019), ((204, 167, 9, 118, 0, 0), 1020), ((8, 339, 9, 10, 0, 0), 1024), ((204, 171, 9, 119, 0, 0), 1027), ((204, 10, 3, 9, 0, 0), 1031), ((204, 12, 9, 130, 0, 0), 1033), ((9, 3, 12, 0, 0, 0), 1036), ((9, 116, 0, 9, 0, 0), 1037), ((9, 9, 0, 9, 1, 0), 1038), ((9, 15, 0, 9, 2, 0), 1039), ((9, 19, 0, 9, 3, 0), 1040), ((9, 22, 0, 9, 4, 0), 1041), ((9, 160, 0, 9, 5, 0), 1042), ((9, 25, 0, 9, 6, 0), 1043), ((9, 214, 0, 9, 7, 0), 1044), ((9, 218, 0, 9, 8, 0), 1045), ((9, 28, 0, 9, 9, 0), 1046), ((9, 31, 0, 9, 10, 0), 1047), ((9, 34, 0, 9, 11, 0), 1048), ((9, 37, 0, 9, 12, 0), 1049), ((9, 163, 0, 9, 13, 0), 1050), ((9, 184, 0, 9, 14, 0), 1051), ((9, 170, 0, 9, 15, 0), 1052), ((9, 208, 0, 9, 16, 0), 1053), ((9, 40, 0, 9, 17, 0), 1054), ((9, 43, 0, 9, 18, 0), 1055), ((9, 46, 0, 9, 19, 0), 1056), ((9, 49, 0, 9, 20, 0), 1057), ((9, 52, 0, 9, 21, 0), 1058), ((9, 55, 0, 9, 22, 0), 1059), ((9, 58, 0, 9, 23, 0), 1060), ((9, 342, 0, 9, 24, 0), 1061), ((9, 345, 0, 9, 25, 0), 1062), ((9, 61, 0, 9, 26, 0), 1063), ((9, 64, 0, 9, 27, 0), 1064), ((9, 157, 0, 9, 28, 0), 1065), ((9, 154, 0, 9, 29, 0), 1066), ((9, 67, 0, 9, 30, 0), 1067), ((9, 369, 0, 9, 31, 0), 1068), ((9, 70, 0, 9, 32, 0), 1069), ((9, 348, 0, 9, 33, 0), 1070), ((9, 73, 0, 9, 34, 0), 1071), ((9, 76, 0, 9, 35, 0), 1072)]
noncomputable def mi_lq4 : List (mi_K × Nat) := [((9, 79, 0, 9, 36, 0), 1073), ((9, 82, 0, 9, 37, 0), 1074), ((9, 86, 0, 9, 38, 0), 1075), ((9, 89, 0, 9, 39, 0), 1076), ((9, 238, 0, 9, 40, 0), 1077), ((9, 244, 0, 9, 41, 0), 1078), ((9, 247, 0, 9, 42, 0), 1079), ((9, 241, 0, 9, 43, 0), 1080), ((9, 92, 0, 9, 44, 0), 1081), ((9, 257, 0, 9, 45, 0), 1082), ((9, 95, 0, 9, 46, 0), 1083), ((9, 98, 0, 9, 47, 0), 1084), ((9, 101, 0, 9, 48, 0), 1085), ((9, 104, 0, 9, 49, 0), 1086), ((9, 107, 0, 9, 50, 0), 1087), ((9, 110, 0, 9, 51, 0), 1088), ((9, 297, 0, 9, 52, 0), 1089), ((9, 113, 0, 9, 53, 0), 1090), ((204, 17, 9, 135, 0, 0), 1200), ((9, 119, 9, 131, 0, 0), 1204), ((9, 123, 9, 134, 0, 0), 1207), ((204, 22, 9, 136, 0, 0), 1211), ((9, 127, 9, 133, 0, 0), 1215), ((9, 131, 7, 0, 0, 3), 1218), ((9, 133, 9, 137, 0, 0), 1219), ((204, 26, 9, 142, 0, 0), 1223), ((9, 140, 9, 138, 0, 0), 1227), ((9, 137, 9, 132, 0, 0), 1231), ((9, 144, 9, 139, 0, 0), 1235), ((9, 147, 9, 140, 0, 0), 1238), ((9, 150, 9, 141, 0, 0), 1242), ((204, 30, 9, 143, 0, 0), 1246), ((204, 125, 9, 144, 0, 0), 1250), ((204, 129, 9, 145, 0, 0), 1254), ((204, 35, 9, 146, 0, 0), 1258), ((204, 40, 9, 159, 0, 0), 1262), ((9, 211, 9, 158, 0, 0), 1266), ((9, 193, 9, 157, 0, 0), 1270), ((9, 205, 9, 156, 0, 0), 1274), ((9, 202, 9, 155, 0, 0), 1278), ((9, 199, 9, 154, 0, 0), 1282), ((9, 196, 9, 153, 0, 0), 1286), ((9, 190, 9, 152, 0, 0), 1290), ((9, 173, 9, 150, 0, 0), 1294), ((9, 166, 9, 147, 0, 0), 1298), ((9, 177, 9, 149, 0, 0), 1302), ((9, 180, 9, 151, 0, 0), 1306), ((9, 187, 9, 148, 0, 0), 1309), ((204, 44, 9, 164, 0, 0), 1313), ((204, 48, 9, 175, 0, 0), 1317), ((9, 276, 9, 173, 0, 0), 1321), ((9, 279, 9, 174, 0, 0), 1325), ((9, 267, 9, 171, 0, 0), 1329), ((9, 263, 9, 168, 0, 0), 1333), ((9, 270, 9, 170, 0, 0), 1337), ((9, 260, 9, 166, 0, 0), 1341), ((9, 250, 9, 165, 0, 0), 1345), ((9, 230, 15, 0, 0, 0), 1349), ((9, 254, 9, 163, 0, 0), 1350), ((9, 227, 9, 162, 0, 0), 1354), ((9, 224, 9, 161, 0, 0), 1358), ((9, 221, 9, 160, 0, 0), 1362), ((9, 235, 14, 0, 0, 0), 1365), ((9, 273, 9, 169, 0, 0), 1366), ((204, 52, 9, 176, 0, 0), 1370), ((204, 56, 9, 177, 0, 0), 1374), ((9, 282, 9, 167, 0, 0), 1378), ((204, 60, 9, 180, 0, 0), 1382), ((9, 284, 9, 178, 0, 0), 1386), ((9, 288, 9, 172, 0, 0), 1390), ((9, 291, 9, 179, 0, 0), 1394), ((204, 65, 9, 181, 0, 0), 1398), ((204, 69, 9, 183, 0, 0), 1402), ((9, 294, 9, 182, 0, 0), 1406), ((204, 73, 9, 185, 0, 0), 1410), ((9, 303, 9, 226, 0, 0), 1414), ((9, 300, 9, 184, 0, 0), 1415), ((204, 77, 9, 187, 0, 0), 1419), ((9, 308, 9, 186, 0, 0), 1423), ((204, 81, 9, 189, 0, 0), 1427), ((9, 311, 9, 188, 0, 0), 1431), ((204, 85, 9, 193, 0, 0), 1435), ((9, 314, 9, 190, 0, 0), 1439), ((9, 317, 9, 191, 0, 0), 1443), ((9, 320, 9, 192, 0, 0), 1447), ((204, 89, 9, 197, 0, 0), 1451), ((9, 323, 9, 194, 0, 0), 1455), ((9, 326, 9, 195, 0, 0), 1459), ((9, 329, 9, 196, 0, 0), 1463), ((204, 93, 9, 200, 0, 0), 1467)]
noncomputable def mi_lq5 : List (mi_K × Nat) := [((9, 340, 6, 0, 0, -2000000000), 1471), ((9, 333, 9, 199, 0, 0), 1472), ((9, 337, 9, 198, 0, 0), 1476), ((204, 97, 9, 201, 0, 0), 1480), ((9, 341, 6, 0, 0, 1103515245), 1484), ((204, 101, 9, 202, 0, 0), 1485), ((204, 105, 9, 203, 0, 0), 1489), ((204, 109, 9, 204, 0, 0), 1493), ((204, 113, 9, 205, 0, 0), 1497), ((204, 117, 9, 206, 0, 0), 1501), ((204, 121, 9, 207, 0, 0), 1505), ((204, 133, 9, 214, 0, 0), 1509), ((204, 137, 9, 215, 0, 0), 1513), ((9, 354, 9, 210, 0, 0), 1517), ((9, 351, 9, 209, 0, 0), 1521), ((9, 357, 9, 208, 0, 0), 1525), ((9, 360, 9, 211, 0, 0), 1528), ((9, 363, 9, 212, 0, 0), 1532), ((9, 366, 9, 213, 0, 0), 1536), ((204, 141, 9, 216, 0, 0), 1540), ((204, 145, 9, 217, 0, 0), 1544), ((204, 149, 9, 218, 0, 0), 1548), ((204, 156, 9, 221, 0, 0), 1552), ((9, 372, 9, 219, 0, 0), 1556), ((9, 375, 9, 220, 0, 0), 1560), ((204, 161, 9, 222, 0, 0), 1563), ((9, 379, 7, 0, 0, -9223372036854775808), 1567), ((204, 166, 9, 223, 0, 0), 1568), ((204, 170, 9, 224, 0, 0), 1572), ((204, 174, 9, 225, 0, 0), 1576), ((204, 150, 7, 0, 0, 4294967295), 1580), ((100, 9, 13, 100, 1, 0), 1581), ((100, 15, 13, 100, 0, 0), 1582)]
noncomputable def mi_lqs : List (mi_K × Nat) := mi_lq0 ++ (mi_lq1 ++ (mi_lq2 ++ (mi_lq3 ++ (mi_lq4 ++ (mi_lq5)))))
noncomputable def mi_links : List mi_K := mi_lqs.map (fun q => q.1)
theorem mi_lz0 : (mi_lq0.all fun q => mi_lkB q.1 q.2) = true := by decide +kernel
theorem mi_lz1 : (mi_lq1.all fun q => mi_lkB q.1 q.2) = true := by decide +kernel
theorem mi_lz2 : (mi_lq2.all fun q => mi_lkB q.1 q.2) = true := by decide +kernel
theorem mi_lz3 : (mi_lq3.all fun q => mi_lkB q.1 q.2) = true := by decide +kernel
theorem mi_lz4 : (mi_lq4.all fun q => mi_lkB q.1 q.2) = true := by decide +kernel
theorem mi_lz5 : (mi_lq5.all fun q => mi_lkB q.1 q.2) = true := by decide +kernel
theorem mi_lz : ∀ q ∈ mi_lqs, mi_lkB q.1 q.2 = true := by
  intro q hq
  unfold mi_lqs at hq
  simp only [List.mem_append] at hq
  rcases hq with h | h | h | h | h | h
  · exact List.all_eq_true.mp mi_lz0 q h
  · exact List.all_eq_true.mp mi_lz1 q h
  · exact List.all_eq_true.mp mi_lz2 q h
  · exact List.all_eq_true.mp mi_lz3 q h
  · exact List.all_eq_true.mp mi_lz4 q h
  · exact List.all_eq_true.mp mi_lz5 q h
noncomputable def mi_ut0 : List mi_K := mi_links
noncomputable def mi_ut1 : List mi_K := mi_ut0.drop 32
noncomputable def mi_ut2 : List mi_K := mi_ut1.drop 32
noncomputable def mi_ut3 : List mi_K := mi_ut2.drop 32
noncomputable def mi_ut4 : List mi_K := mi_ut3.drop 32
noncomputable def mi_ut5 : List mi_K := mi_ut4.drop 32
noncomputable def mi_ut6 : List mi_K := mi_ut5.drop 32
noncomputable def mi_ut7 : List mi_K := mi_ut6.drop 32
noncomputable def mi_ut8 : List mi_K := mi_ut7.drop 32
noncomputable def mi_ut9 : List mi_K := mi_ut8.drop 32
noncomputable def mi_ut10 : List mi_K := mi_ut9.drop 32
noncomputable def mi_ut11 : List mi_K := mi_ut10.drop 32
noncomputable def mi_ut12 : List mi_K := mi_ut11.drop 32
noncomputable def mi_ut13 : List mi_K := mi_ut12.drop 32
noncomputable def mi_ut14 : List mi_K := mi_ut13.drop 32
noncomputable def mi_ut15 : List mi_K := mi_ut14.drop 32
noncomputable def mi_uk (k : Nat) : List mi_K := (cond (Nat.blt k 8) (cond (Nat.blt k 4) (cond (Nat.blt k 2) (cond (Nat.blt k 1) mi_ut0 mi_ut1) (cond (Nat.blt k 3) mi_ut2 mi_ut3)) (cond (Nat.blt k 6) (cond (Nat.blt k 5) mi_ut4 mi_ut5) (cond (Nat.blt k 7) mi_ut6 mi_ut7))) (cond (Nat.blt k 12) (cond (Nat.blt k 10) (cond (Nat.blt k 9) mi_ut8 mi_ut9) (cond (Nat.blt k 11) mi_ut10 mi_ut11)) (cond (Nat.blt k 14) (cond (Nat.blt k 13) mi_ut12 mi_ut13) (cond (Nat.blt k 15) mi_ut14 mi_ut15))))
noncomputable def mi_ua (w : Nat) : Option mi_K := (mi_uk (w / 32))[w % 32]?
theorem mi_uin0 {q : mi_K} (h : q ∈ mi_ut0) : q ∈ mi_links := h
theorem mi_uin1 {q : mi_K} (h : q ∈ mi_ut1) : q ∈ mi_links := mi_uin0 (List.mem_of_mem_drop h)
theorem mi_uin2 {q : mi_K} (h : q ∈ mi_ut2) : q ∈ mi_links := mi_uin1 (List.mem_of_mem_drop h)
theorem mi_uin3 {q : mi_K} (h : q ∈ mi_ut3) : q ∈ mi_links := mi_uin2 (List.mem_of_mem_drop h)
theorem mi_uin4 {q : mi_K} (h : q ∈ mi_ut4) : q ∈ mi_links := mi_uin3 (List.mem_of_mem_drop h)
theorem mi_uin5 {q : mi_K} (h : q ∈ mi_ut5) : q ∈ mi_links := mi_uin4 (List.mem_of_mem_drop h)
theorem mi_uin6 {q : mi_K} (h : q ∈ mi_ut6) : q ∈ mi_links := mi_uin5 (List.mem_of_mem_drop h)
theorem mi_uin7 {q : mi_K} (h : q ∈ mi_ut7) : q ∈ mi_links := mi_uin6 (List.mem_of_mem_drop h)
theorem mi_uin8 {q : mi_K} (h : q ∈ mi_ut8) : q ∈ mi_links := mi_uin7 (List.mem_of_mem_drop h)
theorem mi_uin9 {q : mi_K} (h : q ∈ mi_ut9) : q ∈ mi_links := mi_uin8 (List.mem_of_mem_drop h)
theorem mi_uin10 {q : mi_K} (h : q ∈ mi_ut10) : q ∈ mi_links := mi_uin9 (List.mem_of_mem_drop h)
theorem mi_uin11 {q : mi_K} (h : q ∈ mi_ut11) : q ∈ mi_links := mi_uin10 (List.mem_of_mem_drop h)
theorem mi_uin12 {q : mi_K} (h : q ∈ mi_ut12) : q ∈ mi_links := mi_uin11 (List.mem_of_mem_drop h)
theorem mi_uin13 {q : mi_K} (h : q ∈ mi_ut13) : q ∈ mi_links := mi_uin12 (List.mem_of_mem_drop h)
theorem mi_uin14 {q : mi_K} (h : q ∈ mi_ut14) : q ∈ mi_links := mi_uin13 (List.mem_of_mem_drop h)
theorem mi_uin15 {q : mi_K} (h : q ∈ mi_ut15) : q ∈ mi_links := mi_uin14 (List.mem_of_mem_drop h)
theorem mi_ubr {q : mi_K} {b : Bool} {A B : List mi_K} (hA : q ∈ A → q ∈ mi_links) (hB : q ∈ B → q ∈ mi_links) (h : q ∈ cond b A B) : q ∈ mi_links := by
  cases b
  · exact hB h
  · exact hA h
theorem mi_uk_in {k : Nat} {q : mi_K} (h : q ∈ mi_uk k) : q ∈ mi_links := (mi_ubr (mi_ubr (mi_ubr (mi_ubr mi_uin0 mi_uin1) (mi_ubr mi_uin2 mi_uin3)) (mi_ubr (mi_ubr mi_uin4 mi_uin5) (mi_ubr mi_uin6 mi_uin7))) (mi_ubr (mi_ubr (mi_ubr mi_uin8 mi_uin9) (mi_ubr mi_uin10 mi_uin11)) (mi_ubr (mi_ubr mi_uin12 mi_uin13) (mi_ubr mi_uin14 mi_uin15)))) h
theorem mi_ua_in {w : Nat} {q : mi_K} (h : mi_ua w = some q) : q ∈ mi_links := mi_uk_in (List.mem_of_getElem? h)
theorem mi_lk_in2 {j : Nat} {e : mi_K} (h : mi_ua j = some e) : ∃ w, mi_lkB e w = true := by
  obtain ⟨q, hq, rfl⟩ := List.mem_map.mp (mi_ua_in h)
  exact ⟨_, mi_lz q hq⟩
/-- words that stand by themselves -/
theorem mi_gAI : (Cond.arrayClass .int : Cond) ∈ mi_good := mi_wd_in (w := 136) (by decide +kernel)
theorem mi_gAL : (Cond.arrayClass .long : Cond) ∈ mi_good := mi_wd_in (w := 404) (by decide +kernel)
theorem mi_gCn : (Cond.native arraycopyName : Cond) ∈ mi_good := mi_wd_in (w := 502) (by decide +kernel)
theorem mi_gCs : (Cond.static arraycopyName : Cond) ∈ mi_good := mi_wd_in (w := 501) (by decide +kernel)
theorem mi_gCi : (Cond.initialized "java/lang/System" : Cond) ∈ mi_good := mi_wd_in (w := 93) (by decide +kernel)
theorem mi_gOi : (Cond.instanceMethod objectInit : Cond) ∈ mi_good := mi_wd_in (w := 106) (by decide +kernel)
theorem mi_gOc : (Cond.code objectInit ⟨#[0xb1]⟩ 1 none : Cond) ∈ mi_good := mi_wd_in (w := 107) (by decide +kernel)
theorem mi_gMXs : (Cond.static Lib.Math.max.name : Cond) ∈ mi_good := mi_wd_in (w := 595) (by decide +kernel)
theorem mi_gMXc : (Cond.code Lib.Math.max.name Lib.Math.max.code 2 (some .int) : Cond) ∈ mi_good := mi_wd_in (w := 596) (by decide +kernel)
theorem mi_gMNs : (Cond.static Lib.Math.min.name : Cond) ∈ mi_good := mi_wd_in (w := 598) (by decide +kernel)
theorem mi_gMNc : (Cond.code Lib.Math.min.name Lib.Math.min.code 2 (some .int) : Cond) ∈ mi_good := mi_wd_in (w := 599) (by decide +kernel)
theorem mi_gMi : (Cond.initialized "java/lang/Math" : Cond) ∈ mi_good := mi_wd_in (w := 95) (by decide +kernel)
/-- the entry of an instruction that has one -/
noncomputable def mi_cpi : Instr → Option Nat
  | .getfield i => some i
  | .putfield i => some i
  | .getstatic i => some i
  | .new i => some i
  | .anewarray i => some i
  | .ldc i => some i
  | .ldc_w i => some i
  | .ldc2_w i => some i
  | .invokestatic i => some i
  | .invokevirtual i => some i
  | .invokespecial i => some i
  | .multianewarray i _ => some i
  | _ => none
end
section
/-! THE SMALL MACHINE'S STEPS AT THE HEAP -/
/-- what is only read: statics by number, arrays and objects by number -/
abbrev mi_N : Type := (Nat → Option Value) × (Nat → Option (FieldType × List Int32)) × (Nat → Nat → Option Value)
noncomputable def mi_AOA (U : State) : Prop := (Cond.arrayOver (.array .int)).before #[] U = true
theorem mi_bare (vm : Vm) (comp : ClassId) : (vm.bare.classes.findIdx? fun (x : Class) => match x.kind with | .array component _ => component == comp | _ => false) = (vm.classes.findIdx? fun (x : Class) => match x.kind with | .array component _ => component == comp | _ => false) := by
  simp only [Vm.bare, Array.findIdx?_map]
  rfl
theorem mi_AOA_moved {u U : State} (hvm : u.vm.Alike U.vm) (h : mi_AOA u) : mi_AOA U := by
  obtain ⟨comp, c, k, h1, h2, h3, h4, h5⟩ := arrayOver_specB h
  obtain ⟨k', hk', he⟩ := hvm.2.2 _ _ h3
  have hi : (U.vm.classes.findIdx? fun (x : Class) => match x.kind with | .array component _ => component == comp | _ => false) = some c := by
    rw [← mi_bare]
    first | rw [hvm.bare_eq] | rw [← hvm.bare_eq]
    rw [mi_bare]
    exact h2
  have hkind : k'.kind = .array comp (.array .int) := by rw [he]; exact h4
  have f1 : U.vm.findClass (FieldType.array .int).toString = some comp := by rw [hvm.findClass]; exact h1
  have f2 : U.vm.findClass ("[" ++ (FieldType.array .int).toString) = some c := by rw [hvm.findClass]; exact h5
  unfold mi_AOA Cond.before Cond.holds
  simp only [Cond.value]
  rw [f1, Option.bind_some]
  refine (congrArg (fun o : Option Nat => (o.bind (fun c => (U.vm.classes[c]?).map fun (k : Class) => match k.kind with | .array _ ty => decide (ty = FieldType.array .int) && decide (U.vm.findClass ("[" ++ (FieldType.array .int).toString) = some c) | _ => false) == some true)) hi).trans ?_
  simp [hk', hkind, f2]
/-- what the worlds do not hold: statics, arrays and Strings that are only read; words that are not good; the array classes -/
noncomputable def mi_Ext (N : mi_N) (base : Nat) (ra : Nat → Nat) (cT : FieldType → ClassId) (A : Nat → Prop) (U : State) (H : Heap) : Prop :=
  (∀ z v, N.1 z = some v → ∃ q, mi_sn[z]? = some q ∧ va_Z q.1 q.2.1 q.2.2 (mi_v (mi_ad base ra) v) A U H) ∧
  (∀ j ty l, N.2.1 j = some (ty, l) → va_T ty (ra j) l.length (fun i => .int (l.getD i 0)) A U H) ∧
  (∀ j k v, N.2.2 j k = some v → va_O "java/lang/String" (ra j) A U H ∧ ∃ q, mi_of[k]? = some q ∧ va_OF "java/lang/String" q.1 q.2 (mi_v (mi_ad base ra) v) (ra j) A U H) ∧
  (∀ w ∈ mi_nest, va_Nw w U) ∧ (∀ q ∈ mi_strs, vk_R q.1 q.2.1 q.2.2.1 (ra (10 + q.2.2.2)) U) ∧ va_AO "ThirdAfter$Shelf" U ∧ mi_AOA U ∧
  (∀ ty c, U.vm.findClass ("[" ++ FieldType.toString ty) = some c → cT ty = c)
theorem mi_nest_ok : ∀ w ∈ mi_nest, w.onTables = true ∧ ((∃ a i b n d h, w = .fieldLinkNest a i b n d h) ∨ ∃ a i x h, w = .methodLinkNest a i x h) := by
  intro w hw
  simp only [mi_nest, List.mem_cons, List.not_mem_nil, or_false] at hw
  rcases hw with h | h | h | h | h | h | h | h | h | h | h | h <;> subst h <;> refine ⟨rfl, ?_⟩
  all_goals first | exact Or.inl ⟨_, _, _, _, _, _, rfl⟩ | exact Or.inr ⟨_, _, _, _, rfl⟩
theorem mi_Ext.kept {N : mi_N} {base : Nat} {ra : Nat → Nat} {cT : FieldType → ClassId} {A : Nat → Prop} {U : State} {H H1 : Heap} (h : mi_Ext N base ra cT A U H) (hq : ∀ a : Nat, a < H.size → ¬ A a → H1[a]? = H[a]?) : mi_Ext N base ra cT A U H1 := by
  obtain ⟨h1, h2, h3, h4⟩ := h
  refine ⟨fun z v hz => ?_, fun j ty l hj => (h2 j ty l hj).kept hq, fun j k v hj => ?_, h4⟩
  · obtain ⟨q, a, b⟩ := h1 z v hz
    exact ⟨q, a, b.kept hq⟩
  · obtain ⟨a, q, b, d⟩ := h3 j k v hj
    exact ⟨a.kept hq, q, b, d.kept hq⟩
theorem mi_Ext.warm {N : mi_N} {base : Nat} {ra : Nat → Nat} {cT : FieldType → ClassId} {A : Nat → Prop} {s U : State} {H : Heap} (hW : s.WarmedH U.vm) (h : mi_Ext N base ra cT A s H) : mi_Ext N base ra cT A U H := by
  obtain ⟨h1, h2, h3, h4, h5, h6, h7, h8⟩ := h
  have hvm := hW.alike
  refine ⟨fun z v hz => ?_, fun j ty l hj => (h2 j ty l hj).moved hvm, fun j k v hj => ?_, fun w hw => ?_, fun q hq => (h5 q hq).warm hW, h6.moved hvm, mi_AOA_moved hvm h7, fun ty c hc => h8 ty c (by rw [← hvm.findClass]; exact hc)⟩
  · obtain ⟨q, a, b⟩ := h1 z v hz
    exact ⟨q, a, b.moved hvm⟩
  · obtain ⟨a, q, b, d⟩ := h3 j k v hj
    exact ⟨a.moved hvm, q, b, d.moved hvm⟩
  · have hz := h4 w hw
    rcases (mi_nest_ok w hw).2 with ⟨a, i, b, n, d, x, rfl⟩ | ⟨a, i, x, y, rfl⟩
    · exact hz.warmF hW
    · exact hz.warmM hW
theorem mi_Ext.same {N : mi_N} {base : Nat} {ra : Nat → Nat} {cT : FieldType → ClassId} {A : Nat → Prop} {u U : State} {H : Heap} (hv : u.vm = U.vm) (h : mi_Ext N base ra cT A u H) : mi_Ext N base ra cT A U H := by
  obtain ⟨h1, h2, h3, h4, h5, h6, h7, h8⟩ := h
  have hvm : u.vm.Alike U.vm := by rw [hv]; exact Vm.Alike.refl _
  refine ⟨fun z v hz => ?_, fun j ty l hj => (h2 j ty l hj).moved hvm, fun j k v hj => ?_, fun w hw => (h4 w hw).same (mi_nest_ok w hw).1 hv, fun q hq => (h5 q hq).same hv.symm, h6.moved hvm, mi_AOA_moved hvm h7, fun ty c hc => h8 ty c (by rw [hv]; exact hc)⟩
  · obtain ⟨q, a, b⟩ := h1 z v hz
    exact ⟨q, a, b.moved hvm⟩
  · obtain ⟨a, q, b, d⟩ := h3 j k v hj
    exact ⟨a.moved hvm, q, b, d.moved hvm⟩
/-- the classes of the worlds; the array classes of a heap -/
noncomputable def mi_Kn (D : va_G) (U : State) : Prop := ∀ (k : Nat) (q : vw_C), vwCl[k]? = some q → u_Kn U q.1 q.2.1 q.2.2 (D.1 k) (D.2 k)
noncomputable def mi_KA (cT : FieldType → ClassId) (h : mi_H) (U : State) : Prop := ∀ (k : Nat) (ty : FieldType) (a : mi_A), h[k]? = some (.inr (ty, a)) → ArrOfT U (cT ty) ty ∧ va_RA U (cT ty) ty
theorem mi_KA.moved {cT : FieldType → ClassId} {h : mi_H} {u U : State} (hvm : u.vm.Alike U.vm) (hk : mi_KA cT h u) : mi_KA cT h U := fun k ty a e => ⟨arrOfT_moved hvm (hk k ty a e).1, (hk k ty a e).2.moved hvm⟩
theorem mi_Kn.moved {D : va_G} {u U : State} (hvm : u.vm.Alike U.vm) (hk : mi_Kn D u) : mi_Kn D U := fun k q e => u_Kn_moved hvm (hk k q e)
theorem mi_KA.obj {cT : FieldType → ClassId} {h : mi_H} {U : State} (hk : mi_KA cT h U) (k : Nat) (o : Nat × List Value) : mi_KA cT (h.set k (.inl o)) U := fun j ty a e => by
  rw [List.getElem?_set] at e
  split at e
  · split at e <;> cases e
  · exact hk j ty a e
theorem mi_KA.arr {cT : FieldType → ClassId} {h : mi_H} {U : State} (hk : mi_KA cT h U) {k : Nat} {ty : FieldType} {a0 : mi_A} (e0 : h[k]? = some (.inr (ty, a0))) (a1 : mi_A) : mi_KA cT (h.set k (.inr (ty, a1))) U := fun j ty2 a e => by
  rw [List.getElem?_set] at e
  split at e
  next q =>
    split at e
    · cases e
      exact hk k ty a0 e0
    · cases e
  next => exact hk j ty2 a e
theorem mi_KA.push {cT : FieldType → ClassId} {h : mi_H} {U : State} (hk : mi_KA cT h U) (x : mi_E) (hx : ∀ ty a, x = .inr (ty, a) → ArrOfT U (cT ty) ty ∧ va_RA U (cT ty) ty) : mi_KA cT (h ++ [x]) U := fun j ty a e => by
  rw [List.getElem?_append] at e
  split at e
  · exact hk j ty a e
  · have hz : j - h.length < 1 := (List.getElem?_eq_some_iff.mp e).1
    rw [show j - h.length = 0 by omega] at e
    cases e
    exact hx ty a rfl
theorem mi_KA.K {cT : FieldType → ClassId} {h : mi_H} {U : State} {D : va_G} (hk : mi_KA cT h U) (hn : mi_Kn D U) {k : Nat} {ty : FieldType} {a : mi_A} (e : h[k]? = some (.inr (ty, a))) : va_K D vwCl [(cT ty, ty)] U := ⟨hn, fun j q hj => by
  have hz : j < 1 := (List.getElem?_eq_some_iff.mp hj).1
  rw [show j = 0 by omega] at hj
  cases hj
  exact hk k ty a e⟩
theorem mi_Kn.K0 {D : va_G} {U : State} (hn : mi_Kn D U) : va_K D vwCl [] U := ⟨hn, fun j q hj => by simp at hj⟩
noncomputable def mi_okv : FieldType → Value → Bool
  | .int, .int _ => true
  | .long, .long _ => true
  | .boolean, .int v => v == 0 || v == 1
  | .byte, .int v => v.toInt8.toInt32 == v && (decide (-128 ≤ v) && decide (v ≤ 127))
  | .object _, .ref _ => true
  | .array _, .ref _ => true
  | _, _ => false
theorem mi_okv_n {ad : Nat → Nat} {ty : FieldType} {v : Value} (h : mi_okv ty v = true) : narrow ty (mi_v ad v) = mi_v ad v ∧ fits ty (mi_v ad v) = true := by
  unfold mi_okv at h
  split at h
  · exact ⟨rfl, rfl⟩
  · exact ⟨rfl, rfl⟩
  next x =>
    rcases Bool.or_eq_true_iff.mp h with e | e <;> cases (beq_iff_eq.mp e) <;> exact ⟨rfl, rfl⟩
  next x =>
    obtain ⟨h1, h2⟩ := Bool.and_eq_true_iff.mp h
    exact ⟨congrArg Value.int (beq_iff_eq.mp h1), h2⟩
  · exact ⟨rfl, rfl⟩
  · exact ⟨rfl, rfl⟩
  · cases h
end
section
/-! the kit's stores, copies and makings once more, with the heap's size behind them and the place of what is new -/
section MIR
variable {p : Program} {l : Launch} {e : Env} {R : Room} {s : State} {m : MethodId} {args : Array Value} {below : List Frame} {meth : Method} {c : Code} {H : Heap} {locs : List Loc} {cells slots : Nat} {Q : State → Prop}
variable {cc : ByteArray} {pc : Nat} {ls : Array Slot} {rest : List Value} {D : va_G} {cl : List vw_C} {A : Nat → Prop} {a : Nat} {tys : List (ClassId × FieldType)} {ws : va_W} {H0 : Heap}
theorem mi_putF (hexec : p.tables.exec = Jvm.exec) (hb : c.code = cc) {own ref C : String} {T : u_T} {N ci index : Nat} {Ts : List Cond} (hts : ∀ w ∈ Ts, w.before args s = true) (hin : ∀ w ∈ u_ws C T N, w ∈ Ts) (ty0 : Nat → FieldType) (hty : ∀ k, k < N → parseFieldDescriptor (T k).2.2.1 = some (ty0 k)) (hnm : ∀ a, a < N → ∀ b, b < N → a ≠ b → (T a).2.1 ≠ (T b).2.1) (hown : s.vm.findClass own = some m.cls) (hK : va_K D cl tys s) (hP : va_P D cl ws H) (hD : va_D A ws) (hS0 : va_S A H0 H locs) (q0 : Nat) {fs : List Value} (he : ws[q0]? = some (a, .inr (ci, fs))) (hc : cl[ci]? = some (C, T, N)) (k : Nat) (hk : k < N) (hlink : (Cond.fieldLink own index ref (T k).2.1 (T k).2.2.1).before args s = true)
    (hsame : ∀ x, s.fieldFound? (T k).1 (T k).2.1 (T k).2.2.1 = some x → s.fieldFound? ref (T k).2.1 (T k).2.2.1 = some x) (hfin : (T k).2.2.2 = false ∨ ((T k).2.2.2 = true ∧ meth.name = "<init>" ∧ (T k).1 = own)) {ty : FieldType} {v : Value} (hd : parseFieldDescriptor (T k).2.2.1 = some ty) (hn : narrow ty v = v) (hfit : fits ty v = true) (hl : k < fs.length)
    (hdg : decode cc pc = .ok (.putfield index, 3)) (kk : ∀ (H1 : Heap) (locs1 : List Loc), va_P D cl (ws.set q0 (a, .inr (ci, fs.set k v))) H1 → H1.size = H.size → va_S A H0 H1 locs1 → W p l e R s m args below meth c H1 locs1 cells slots Q (F0 m (pc + 3) ls rest)) : W p l e R s m args below meth c H locs cells slots Q (F0 m pc ls (v :: .ref a :: rest)) := by
  have hap := va_apart (own := own) hts hin ty0 hty hnm hK hc
  obtain ⟨r, h1, cell, q1, q2, q3, q4⟩ := hP q0 _ he
  have hr : r = (C, T, N) := Option.some.inj (h1.symm.trans hc)
  subst hr
  obtain ⟨hS, hfc, kC, hkC, hkind⟩ := hK.1 ci _ hc
  obtain ⟨cf, kf, fi, f, hi, hsl⟩ := hS k hk
  have hlay := hts _ (hin _ (u_in_lay hk))
  have hst := (u_facts hfc hkC (u_lays hts hin hk) hi).1
  have hlt : f.slot < cell.slots.size := by rw [hsl]; exact k2_hasslot (q4 k hk)
  rcases hfin with hfin | ⟨hfin, hin2, hdecl⟩
  · unfold u_lay at hlay
    rw [if_neg (by rw [hfin]; decide)] at hlay
    have h6 := u_store hfc hkC hkind hlay hi hd hn hfit
    refine W.putK hexec hb (f := f) ⟨hown, hlink, ⟨_, _, _, hsame _ hi⟩, hst⟩ (by rw [q2]; exact h6) q1 q3 hlt rfl rfl hdg fun H' e1 e2 e3 => ?_
    rw [hsl] at e1 ⊢
    exact kk H' _ (hP.set hD he ⟨_, hc, t_OB.to (V := updV (vp_V fs) k v) ⟨_, e1, q2, q3, t_set q4 hap hk v⟩ (fun j _ => vp_updV_set hl v j)⟩ e3) e2 (hS0.put e2 e3 (hD.2 q0 _ he))
  · unfold u_lay at hlay
    rw [if_pos hfin] at hlay
    have hcf : m.cls = cf := by
      obtain ⟨_, _, c', _, _, _, -, -, hf', -, -, -, hown2, -⟩ := Cond.laysFinal_spec hlay
      have e1 : c' = cf := by have := hi.symm.trans hf'; simp at this; exact this.1.symm
      rw [hdecl] at hown2
      rw [← e1]; exact Option.some.inj (hown.symm.trans hown2)
    have h6 := u_fits hfc hkC hkind (Or.inr hlay) hi hd hn hfit
    refine W.putFinK hexec hb hown hlink (hsame _ hi) hst hcf hin2 (by rw [q2]; exact h6) q1 q3 hlt rfl rfl hdg fun H' e1 e2 e3 => ?_
    rw [hsl] at e1 ⊢
    exact kk H' _ (hP.set hD he ⟨_, hc, t_OB.to (V := updV (vp_V fs) k v) ⟨_, e1, q2, q3, t_set q4 hap hk v⟩ (fun j _ => vp_updV_set hl v j)⟩ e3) e2 (hS0.put e2 e3 (hD.2 q0 _ he))
theorem mi_iast (hexec : p.tables.exec = Jvm.exec) (hb : c.code = cc) (hK : va_K D cl tys s) (hP : va_P D cl ws H) (hD : va_D A ws) (hS : va_S A H0 H locs) (q0 t0 : Nat) {cA : ClassId} {n : Nat} {f : Nat → Int32} (ha : ws[q0]? = some (a, .inl (cA, n, .inl f))) (ht : tys[t0]? = some (cA, .int)) {i : Int32} {x : Int32} (hin : vp_in i n) (hdg : decode cc pc = .ok (.iastore, 1))
    (kk : ∀ (H1 : Heap) (locs1 : List Loc), va_P D cl (ws.set q0 (a, .inl (cA, n, .inl (upd f i.toNatClampNeg x)))) H1 → H1.size = H.size → va_S A H0 H1 locs1 → W p l e R s m args below meth c H1 locs1 cells slots Q (F0 m (pc + 1) ls rest)) : W p l e R s m args below meth c H locs cells slots Q (F0 m pc ls (.int x :: .int i :: .ref a :: rest)) := by
  refine W.iast hexec hb (hP q0 _ ha) ((hK.2 t0 _ ht).1 n (fun j => .int (f j))) (fun q => by cases q) (by show ¬ (i < 0 ∨ (arrV _ _ _).slots.size ≤ _); rw [arrV_size]; exact hin) rfl rfl hdg fun H1 e z oq => ?_
  refine kk H1 _ (hP.set hD ha ?_ oq) z (hS.put z oq (hD.2 q0 _ ha))
  show H1[a]? = some (vp_cell _ _)
  rw [e]
  rw [vp_cell_i, vp_cell_i, arrV_store]
  congr 2
  funext q
  by_cases hq : q = i.toNatClampNeg
  · subst hq
    simp [updV, upd]
  · simp [updV, upd, hq]
theorem mi_last (hexec : p.tables.exec = Jvm.exec) (hb : c.code = cc) (hK : va_K D cl tys s) (hP : va_P D cl ws H) (hD : va_D A ws) (hS : va_S A H0 H locs) (q0 t0 : Nat) {cA : ClassId} {n : Nat} {f : Nat → Int64} (ha : ws[q0]? = some (a, .inl (cA, n, .inr (.inl f)))) (ht : tys[t0]? = some (cA, .long)) {i : Int32} {x : Int64} (hin : vp_in i n) (hdg : decode cc pc = .ok (.lastore, 1))
    (kk : ∀ (H1 : Heap) (locs1 : List Loc), va_P D cl (ws.set q0 (a, .inl (cA, n, .inr (.inl (vp_updL f i.toNatClampNeg x))))) H1 → H1.size = H.size → va_S A H0 H1 locs1 → W p l e R s m args below meth c H1 locs1 cells slots Q (F0 m (pc + 1) ls rest)) : W p l e R s m args below meth c H locs cells slots Q (F0 m pc ls (.long x :: .int i :: .ref a :: rest)) := by
  refine W.last hexec hb (hP q0 _ ha) ((hK.2 t0 _ ht).1 n (fun j => .long (f j))) (fun q => by cases q) (by show ¬ (i < 0 ∨ (arrV _ _ _).slots.size ≤ _); rw [arrV_size]; exact hin) rfl rfl hdg fun H1 e z oq => ?_
  refine kk H1 _ (hP.set hD ha ?_ oq) z (hS.put z oq (hD.2 q0 _ ha))
  show H1[a]? = some (vp_cell _ _)
  rw [e]
  rw [vp_cell_l, vp_cell_l, arrV_store]
  congr 2
  funext q
  by_cases hq : q = i.toNatClampNeg
  · subst hq
    simp [updV, vp_updL]
  · simp [updV, vp_updL, hq]
theorem mi_aast (hexec : p.tables.exec = Jvm.exec) (hb : c.code = cc) (hK : va_K D cl tys s) (hP : va_P D cl ws H) (hD : va_D A ws) (hS : va_S A H0 H locs) (q0 t0 qk ci : Nat) {cA : ClassId} {r : vw_C} {n v : Nat} {vs : List Value} {f : Nat → Option Nat} (ha : ws[q0]? = some (a, .inl (cA, n, .inr (.inr (.inr (.inr f)))))) (ht : tys[t0]? = some (cA, .object r.1)) (hv : ws[qk]? = some (v, .inr (ci, vs))) (hc : cl[ci]? = some r) {i : Int32} (hin : vp_in i n) (hdg : decode cc pc = .ok (.aastore, 1))
    (kk : ∀ (H1 : Heap) (locs1 : List Loc), va_P D cl (ws.set q0 (a, .inl (cA, n, .inr (.inr (.inr (.inr (va_up f i.toNatClampNeg (some v)))))))) H1 → H1.size = H.size → va_S A H0 H1 locs1 → W p l e R s m args below meth c H1 locs1 cells slots Q (F0 m (pc + 1) ls rest)) : W p l e R s m args below meth c H locs cells slots Q (F0 m pc ls (.ref v :: .int i :: .ref a :: rest)) := by
  have hlt : i.toNatClampNeg < n := Nat.not_le.mp fun q => hin (Or.inr q)
  have h0 : ¬ i < 0 := fun q => hin (Or.inl q)
  obtain ⟨r', hr', cellV, g1, g2, g3, -⟩ := hP qk _ hv
  have hcls := (hK.1 ci r hc).2
  obtain ⟨kA, comp, k1, k2, k3, -⟩ := (hK.2 t0 _ ht).2
  have hcomp : comp = D.1 ci := Option.some.inj (k3.symm.trans hcls.1)
  subst hcomp
  obtain ⟨kC, hkC, -⟩ := hcls.2
  refine W.aast hexec hb (hP q0 _ ha) (fun q h => by cases h) (fun h => by cases h) k1 k2 rfl hkC ⟨h0, by show _ < (arrV _ _ _).slots.size; rw [arrV_size]; exact hlt⟩ g1 (fun q h => by rw [g3] at h; cases h) (by rw [g2]; exact hkC) (by rw [g2]; exact va_assign hcls) rfl rfl hdg fun H1 e z oq => ?_
  refine kk H1 _ (hP.set hD ha ?_ oq) z (hS.put z oq (hD.2 q0 _ ha))
  show H1[a]? = some (vp_cell _ _)
  rw [e]
  rw [vp_cell_q, vp_cell_q, arrV_store]
  congr 2
  funext q
  by_cases hq : q = i.toNatClampNeg
  · subst hq
    simp [updV, va_up, va_rf]
  · simp [updV, va_up, hq]
theorem mi_copyi (hexec : p.tables.exec = Jvm.exec) (hb : c.code = cc) (hml : c.maxLocals = ls.size) {own : String} {index : Nat} (hown : s.vm.findClass own = some m.cls) (hlink : (Cond.methodLink own index arraycopyName).before args s = true) (hnat : (Cond.native arraycopyName).before args s = true) (hstat : (Cond.static arraycopyName).before args s = true) (hini : (Cond.initialized "java/lang/System").before args s = true)
    (hP : va_P D cl ws H) (hD : va_D A ws) (hS : va_S A H0 H locs) (q0 q1 : Nat) {a0 : Nat} {c0 c1 : ClassId} {n0 n1 : Nat} {f g : Nat → Int32} {ty : FieldType} (ha0 : ws[q0]? = some (a0, .inl (c0, n0, .inl f))) (ha1 : ws[q1]? = some (a, .inl (c1, n1, .inl g))) (ht0 : ArrOfT s c0 ty) (ht1 : ArrOfT s c1 ty) (hprim : refKind ty = false)
    {sp dp n : Int32} (h1 : ¬ sp < 0) (h2 : ¬ dp < 0) (h3 : ¬ n < 0) (h4 : sp.toNatClampNeg + n.toNatClampNeg ≤ n0) (h5 : dp.toNatClampNeg + n.toNatClampNeg ≤ n1) (hfit : ∀ i, i < n.toNatClampNeg → fits ty (.int (f (sp.toNatClampNeg + i))) = true)
    (hframes : 1 ≤ R.frames) (hlocals : (rest.map fun v => v.category).sum + (nativeFrameWords "java/lang/System" "arraycopy" 5 + 11) ≤ R.locals) (hdg : decode cc pc = .ok (.invokestatic index, 3))
    (kk : ∀ (H1 : Heap) (locs1 : List Loc), va_P D cl (ws.set q1 (a, .inl (c1, n1, .inl (va_cpy f g sp.toNatClampNeg dp.toNatClampNeg n.toNatClampNeg)))) H1 → H1.size = H.size → va_S A H0 H1 locs1 → W p l e R s m args below meth c H1 locs1 cells slots Q (F0 m (pc + 3) ls rest)) : W p l e R s m args below meth c H locs cells slots Q (F0 m pc ls (.int n :: .int dp :: .ref a :: .int sp :: .ref a0 :: rest)) := by
  have nn : ∀ z : Int32, ¬ z < 0 → z.toInt = (z.toNatClampNeg : Int) := by
    intro z hz
    have hz0 : (0 : Int) ≤ z.toInt := by
      have := Int32.not_lt.mp hz
      simpa using Int32.le_iff_toInt_le.mp this
    show z.toInt = ((z.toInt.toNat : Nat) : Int)
    omega
  intro T hT X
  have hc0 : H[a0]? = some (vp_cell c0 (n0, .inl f)) := hP q0 _ ha0
  have hc1 : H[a]? = some (vp_cell c1 (n1, .inl g)) := hP q1 _ ha1
  obtain ⟨-, k0, hk0, cm0, hkk0⟩ := ht0 n0 (fun j => .int (f j))
  obtain ⟨-, k1, hk1, cm1, hkk1⟩ := ht1 n1 (fun j => .int (g j))
  obtain ⟨vm', X', step⟩ := X.arraycopy hexec hown hlink hnat hstat hini (src := a0) (dst := a) (cs := vp_cell c0 (n0, .inl f)) (cd := vp_cell c1 (n1, .inl g)) (srcPos := sp) (destPos := dp) (n := n) (by rw [hT]; exact hc0) (by rw [hT]; exact hc1)
    (fun _ h => by cases h) (fun _ h => by cases h) (fun h => by cases h) (fun h => by cases h) hk0 hk1 hkk0 hkk1 (by simp [hprim]) h1 h2 h3
    (by rw [nn sp h1, nn n h3]; show ¬ _ > ((arrV c0 n0 (fun j => .int (f j))).slots.size : Int); rw [arrV_size]; omega)
    (by rw [nn dp h2, nn n h3]; show ¬ _ > ((arrV c1 n1 (fun j => .int (g j))).slots.size : Int); rw [arrV_size]; omega)
    (fun vm₁ _ i hi => by
      have e : (vp_cell c0 (n0, .inl f)).slots.getD (sp.toNatClampNeg + i) .null = .int (f (sp.toNatClampNeg + i)) := by
        show (arrV c0 n0 (fun j => .int (f j))).slots.getD _ _ = _
        rw [Array.getD_eq_getD_getElem?, arrV_read _ _ (by omega)]
        rfl
      refine ⟨?_, ?_⟩
      · rw [e]
        exact hfit i hi
      · rw [e]
        exact trivial)
    (g := F0 m pc ls (.int n :: .int dp :: .ref a :: .int sp :: .ref a0 :: rest)) rfl (by rw [hml]) (rest := rest) rfl (by rw [hb]; exact hdg) hframes (by show 2 * 0 + _ + _ ≤ _; omega)
  have e1 : copied (vp_cell c0 (n0, .inl f)) (vp_cell c1 (n1, .inl g)) sp dp n = vp_cell c1 (n1, .inl (va_cpy f g sp.toNatClampNeg dp.toNatClampNeg n.toNatClampNeg)) := va_copied (fun z => .int z) c0 c1 f g h4
  rw [e1] at X' step
  have hl : a < H.size := (Array.getElem?_eq_some_iff.mp hc1).1
  have hheap : ((T.setVm vm').setCell a (vp_cell c1 (n1, .inl (va_cpy f g sp.toNatClampNeg dp.toNatClampNeg n.toNatClampNeg)))).heap = H.setIfInBounds a (vp_cell c1 (n1, .inl (va_cpy f g sp.toNatClampNeg dp.toNatClampNeg n.toNatClampNeg))) := by rw [← hT]; rfl
  have oq : ∀ q : Nat, q ≠ a → (H.setIfInBounds a (vp_cell c1 (n1, .inl (va_cpy f g sp.toNatClampNeg dp.toNatClampNeg n.toNatClampNeg))))[q]? = H[q]? := fun q hq => by simp [Array.getElem?_setIfInBounds, Ne.symm hq]
  obtain ⟨t, a1, b1⟩ := kk _ _ (hP.set hD ha1 (show (H.setIfInBounds a _)[a]? = some _ by simp [Array.getElem?_setIfInBounds, hl]) oq) (by simp) ⟨by simp; exact hS.1, fun q g1 g2 => by
      rw [oq q (fun e => g2 (by rw [e]; exact hD.2 q1 _ ha1))]
      exact hS.2.1 q g1 g2, fun q hq => by
      rcases List.mem_append.mp hq with h | h
      · exact hS.2.2 q h
      · obtain ⟨z, -, hz⟩ := List.mem_map.mp h
        rw [← hz]
        exact hD.2 q1 _ ha1⟩ _ hheap X'
  exact ⟨t, step t a1, b1⟩
theorem mi_copyl (hexec : p.tables.exec = Jvm.exec) (hb : c.code = cc) (hml : c.maxLocals = ls.size) {own : String} {index : Nat} (hown : s.vm.findClass own = some m.cls) (hlink : (Cond.methodLink own index arraycopyName).before args s = true) (hnat : (Cond.native arraycopyName).before args s = true) (hstat : (Cond.static arraycopyName).before args s = true) (hini : (Cond.initialized "java/lang/System").before args s = true)
    (hP : va_P D cl ws H) (hD : va_D A ws) (hS : va_S A H0 H locs) (q0 q1 : Nat) {a0 : Nat} {c0 c1 : ClassId} {n0 n1 : Nat} {f g : Nat → Int64} {ty : FieldType} (ha0 : ws[q0]? = some (a0, .inl (c0, n0, .inr (.inl f)))) (ha1 : ws[q1]? = some (a, .inl (c1, n1, .inr (.inl g)))) (ht0 : ArrOfT s c0 ty) (ht1 : ArrOfT s c1 ty) (hprim : refKind ty = false)
    {sp dp n : Int32} (h1 : ¬ sp < 0) (h2 : ¬ dp < 0) (h3 : ¬ n < 0) (h4 : sp.toNatClampNeg + n.toNatClampNeg ≤ n0) (h5 : dp.toNatClampNeg + n.toNatClampNeg ≤ n1) (hfit : ∀ i, i < n.toNatClampNeg → fits ty (.long (f (sp.toNatClampNeg + i))) = true)
    (hframes : 1 ≤ R.frames) (hlocals : (rest.map fun v => v.category).sum + (nativeFrameWords "java/lang/System" "arraycopy" 5 + 11) ≤ R.locals) (hdg : decode cc pc = .ok (.invokestatic index, 3))
    (kk : ∀ (H1 : Heap) (locs1 : List Loc), va_P D cl (ws.set q1 (a, .inl (c1, n1, .inr (.inl (va_cpy f g sp.toNatClampNeg dp.toNatClampNeg n.toNatClampNeg))))) H1 → H1.size = H.size → va_S A H0 H1 locs1 → W p l e R s m args below meth c H1 locs1 cells slots Q (F0 m (pc + 3) ls rest)) : W p l e R s m args below meth c H locs cells slots Q (F0 m pc ls (.int n :: .int dp :: .ref a :: .int sp :: .ref a0 :: rest)) := by
  have nn : ∀ z : Int32, ¬ z < 0 → z.toInt = (z.toNatClampNeg : Int) := by
    intro z hz
    have hz0 : (0 : Int) ≤ z.toInt := by
      have := Int32.not_lt.mp hz
      simpa using Int32.le_iff_toInt_le.mp this
    show z.toInt = ((z.toInt.toNat : Nat) : Int)
    omega
  intro T hT X
  have hc0 : H[a0]? = some (vp_cell c0 (n0, .inr (.inl f))) := hP q0 _ ha0
  have hc1 : H[a]? = some (vp_cell c1 (n1, .inr (.inl g))) := hP q1 _ ha1
  obtain ⟨-, k0, hk0, cm0, hkk0⟩ := ht0 n0 (fun j => .long (f j))
  obtain ⟨-, k1, hk1, cm1, hkk1⟩ := ht1 n1 (fun j => .long (g j))
  obtain ⟨vm', X', step⟩ := X.arraycopy hexec hown hlink hnat hstat hini (src := a0) (dst := a) (cs := vp_cell c0 (n0, .inr (.inl f))) (cd := vp_cell c1 (n1, .inr (.inl g))) (srcPos := sp) (destPos := dp) (n := n) (by rw [hT]; exact hc0) (by rw [hT]; exact hc1)
    (fun _ h => by cases h) (fun _ h => by cases h) (fun h => by cases h) (fun h => by cases h) hk0 hk1 hkk0 hkk1 (by simp [hprim]) h1 h2 h3
    (by rw [nn sp h1, nn n h3]; show ¬ _ > ((arrV c0 n0 (fun j => .long (f j))).slots.size : Int); rw [arrV_size]; omega)
    (by rw [nn dp h2, nn n h3]; show ¬ _ > ((arrV c1 n1 (fun j => .long (g j))).slots.size : Int); rw [arrV_size]; omega)
    (fun vm₁ _ i hi => by
      have e : (vp_cell c0 (n0, .inr (.inl f))).slots.getD (sp.toNatClampNeg + i) .null = .long (f (sp.toNatClampNeg + i)) := by
        show (arrV c0 n0 (fun j => .long (f j))).slots.getD _ _ = _
        rw [Array.getD_eq_getD_getElem?, arrV_read _ _ (by omega)]
        rfl
      refine ⟨?_, ?_⟩
      · rw [e]
        exact hfit i hi
      · rw [e]
        exact trivial)
    (g := F0 m pc ls (.int n :: .int dp :: .ref a :: .int sp :: .ref a0 :: rest)) rfl (by rw [hml]) (rest := rest) rfl (by rw [hb]; exact hdg) hframes (by show 2 * 0 + _ + _ ≤ _; omega)
  have e1 : copied (vp_cell c0 (n0, .inr (.inl f))) (vp_cell c1 (n1, .inr (.inl g))) sp dp n = vp_cell c1 (n1, .inr (.inl (va_cpy f g sp.toNatClampNeg dp.toNatClampNeg n.toNatClampNeg))) := va_copied (fun z => .long z) c0 c1 f g h4
  rw [e1] at X' step
  have hl : a < H.size := (Array.getElem?_eq_some_iff.mp hc1).1
  have hheap : ((T.setVm vm').setCell a (vp_cell c1 (n1, .inr (.inl (va_cpy f g sp.toNatClampNeg dp.toNatClampNeg n.toNatClampNeg))))).heap = H.setIfInBounds a (vp_cell c1 (n1, .inr (.inl (va_cpy f g sp.toNatClampNeg dp.toNatClampNeg n.toNatClampNeg)))) := by rw [← hT]; rfl
  have oq : ∀ q : Nat, q ≠ a → (H.setIfInBounds a (vp_cell c1 (n1, .inr (.inl (va_cpy f g sp.toNatClampNeg dp.toNatClampNeg n.toNatClampNeg)))))[q]? = H[q]? := fun q hq => by simp [Array.getElem?_setIfInBounds, Ne.symm hq]
  obtain ⟨t, a1, b1⟩ := kk _ _ (hP.set hD ha1 (show (H.setIfInBounds a _)[a]? = some _ by simp [Array.getElem?_setIfInBounds, hl]) oq) (by simp) ⟨by simp; exact hS.1, fun q g1 g2 => by
      rw [oq q (fun e => g2 (by rw [e]; exact hD.2 q1 _ ha1))]
      exact hS.2.1 q g1 g2, fun q hq => by
      rcases List.mem_append.mp hq with h | h
      · exact hS.2.2 q h
      · obtain ⟨z, -, hz⟩ := List.mem_map.mp h
        rw [← hz]
        exact hD.2 q1 _ ha1⟩ _ hheap X'
  exact ⟨t, step t a1, b1⟩
/-- a new object: at the heap's end -/
theorem mi_new (hexec : p.tables.exec = Jvm.exec) (hb : c.code = cc) {own C : String} {T : u_T} {N ci index : Nat} {Ts : List Cond} (hts : ∀ w ∈ Ts, w.before args s = true) (hin : ∀ w ∈ u_ws C T N, w ∈ Ts) (ty : Nat → FieldType) (hty : ∀ k, k < N → parseFieldDescriptor (T k).2.2.1 = some (ty k)) (hown : s.vm.findClass own = some m.cls) (hcl : (Cond.classLink own index C).before args s = true) (hinst : (Cond.instantiable C N).before args s = true) (hini : (Cond.initialized C).before args s = true)
    (hKn : u_Kn s C T N (D.1 ci) (D.2 ci)) (hP : va_P D cl ws H) (hS : va_S A H0 H locs) (hc : cl[ci]? = some (C, T, N)) {fs : List Value} (hfs : ∀ j, j < N → defaultValue (ty j) = vp_V fs j) (hcells : cells + 1 ≤ R.cells) (hslots : slots + N ≤ R.slots) (hdg : decode cc pc = .ok (.new index, 3))
    (kk : ∀ (H1 : Heap), va_P D cl (ws ++ [(H.size, .inr (ci, fs))]) H1 → H1.size = H.size + 1 → va_S A H0 H1 locs → W p l e R s m args below meth c H1 locs (cells + 1) (slots + N) Q (F0 m (pc + 3) ls (.ref H.size :: rest))) : W p l e R s m args below meth c H locs cells slots Q (F0 m pc ls rest) := by
  refine W.newcK hexec hb hown hcl hinst hini rfl hdg hcells hslots hKn.2.1 rfl fun H1 kC hkC e1 z1 o1 => ?_
  have hk : ∀ (k : Nat) (x : Nat × va_E), ws[k]? = some x → H1[x.1]? = H[x.1]? := fun k x hx => o1 x.1 ((hP k x hx).lt)
  refine kk H1 ((hP.kept hk).app (fun k x hx => ?_)) z1 ⟨Nat.le_trans hS.1 (by omega), fun x h1 h2 => (o1 x (Nat.lt_of_lt_of_le h1 hS.1)).trans (hS.2.1 x h1 h2), hS.2.2⟩
  have hz : k < 1 := (List.getElem?_eq_some_iff.mp hx).1
  rw [show k = 0 by omega] at hx
  cases hx
  exact ⟨_, hc, (u_born ty hts hin hKn hkC e1 hty).to hfs⟩
theorem mi_newa (hexec : p.tables.exec = Jvm.exec) (hb : c.code = cc) {atype : ArrayType} (harr : (Cond.arrayClass (newarray.typeOf atype)).before args s = true) {ty : FieldType} (hty : newarray.typeOf atype = ty) (hP : va_P D cl ws H) (hS : va_S A H0 H locs) {n : Int32} {N' : Nat} {a0 : vp_A} (ha : ∀ cA : ClassId, vp_cell cA a0 = arrV cA N' (fun _ => defaultValue ty)) (hn : ¬ n < 0) (hN : n.toNatClampNeg = N') (hbytes : N' * componentBytes ty ≤ 536870912) (hcells : cells + 1 ≤ R.cells) (hslots : slots + N' ≤ R.slots) (hdg : decode cc pc = .ok (.newarray atype, 2))
    (kk : ∀ (cA : ClassId) (H1 : Heap), ArrOfT s cA ty → s.vm.findClass ("[" ++ ty.toString) = some cA → va_P D cl (ws ++ [(H.size, .inl (cA, a0))]) H1 → H1.size = H.size + 1 → va_S A H0 H1 locs → W p l e R s m args below meth c H1 locs (cells + 1) (slots + N') Q (F0 m (pc + 2) ls (.ref H.size :: rest))) : W p l e R s m args below meth c H locs cells slots Q (F0 m pc ls (.int n :: rest)) := by
  subst hty
  refine va_newaK hexec hb harr rfl hdg rfl hn hN hbytes hcells hslots rfl fun H1 cA e1 z1 o1 hAr hNm => ?_
  have hk : ∀ (k : Nat) (x : Nat × va_E), ws[k]? = some x → H1[x.1]? = H[x.1]? := fun k x hx => o1 x.1 ((hP k x hx).lt)
  refine kk cA H1 hAr hNm ((hP.kept hk).app (fun k x hx => ?_)) z1 ⟨Nat.le_trans hS.1 (by omega), fun x h1 h2 => (o1 x (Nat.lt_of_lt_of_le h1 hS.1)).trans (hS.2.1 x h1 h2), hS.2.2⟩
  have hz : k < 1 := (List.getElem?_eq_some_iff.mp hx).1
  rw [show k = 0 by omega] at hx
  cases hx
  show H1[H.size]? = some (vp_cell _ _)
  rw [ha]
  exact e1
theorem mi_newq (hexec : p.tables.exec = Jvm.exec) (hb : c.code = cc) {own C : String} {index : Nat} (hown : s.vm.findClass own = some m.cls) (hclink : (Cond.classLink own index C).before args s = true) (hover : va_AO C s) (hP : va_P D cl ws H) (hS : va_S A H0 H locs) {n : Int32} {N' : Nat} (hn : ¬ n < 0) (hN : n.toNatClampNeg = N') (hbytes : N' * 4 ≤ 536870912) (hcells : cells + 1 ≤ R.cells) (hslots : slots + N' ≤ R.slots) (hdg : decode cc pc = .ok (.anewarray index, 3))
    (kk : ∀ (cA : ClassId) (H1 : Heap), ArrOfT s cA (.object C) → va_RA s cA (.object C) → s.vm.findClass ("[" ++ (FieldType.object C).toString) = some cA → va_P D cl (ws ++ [(H.size, .inl (cA, N', .inr (.inr (.inr (.inr (fun _ => none))))))]) H1 → H1.size = H.size + 1 → va_S A H0 H1 locs → W p l e R s m args below meth c H1 locs (cells + 1) (slots + N') Q (F0 m (pc + 3) ls (.ref H.size :: rest))) : W p l e R s m args below meth c H locs cells slots Q (F0 m pc ls (.int n :: rest)) := by
  subst hN
  refine W.anew hexec hb hown hclink (va_AO.use hover) rfl hdg rfl hn hbytes hcells hslots fun cA kA comp f1 f2 f3 f4 => ?_
  generalize hH1 : H.push ({ cls := cA, slots := Array.replicate n.toNatClampNeg .null, vm := .none } : Cell) = H1
  have z1 : H1.size = H.size + 1 := by rw [← hH1, Array.size_push]
  have e1 : H1[H.size]? = some (arrV cA n.toNatClampNeg (fun _ => .null)) := by rw [← hH1, Array.getElem?_push_size, ← arrV_new]
  have o1 : ∀ q : Nat, q < H.size → H1[q]? = H[q]? := fun q hq => by rw [← hH1, Array.getElem?_push, if_neg (Nat.ne_of_lt hq)]
  have hk : ∀ (k : Nat) (x : Nat × va_E), ws[k]? = some x → H1[x.1]? = H[x.1]? := fun k x hx => o1 x.1 ((hP k x hx).lt)
  refine kk cA H1 (fun N z => ⟨(fun k h => by cases h), kA, f2, comp, f3⟩) ⟨kA, comp, f2, f3, f4, f1⟩ f1 ((hP.kept hk).app (fun k x hx => ?_)) z1 ⟨Nat.le_trans hS.1 (by omega), fun x h1 h2 => (o1 x (Nat.lt_of_lt_of_le h1 hS.1)).trans (hS.2.1 x h1 h2), hS.2.2⟩
  have hz : k < 1 := (List.getElem?_eq_some_iff.mp hx).1
  rw [show k = 0 by omega] at hx
  cases hx
  show H1[H.size]? = some (vp_cell _ _)
  rw [vp_cell_q]
  exact e1
theorem mi_outer (c : ClassId) (N h0 : Nat) : ∀ i : Nat, Jvm.Free.Multi.outerC c N h0 i = arrV c N (fun j => va_rf (if j < i then some (h0 + 1 + j) else none))
  | 0 => by
    show ({ cls := c, slots := Array.replicate N .null, vm := .none } : Cell) = _
    rw [arrV_new]
    refine congrArg (arrV c N) (funext fun j => ?_)
    simp [va_rf]
  | i + 1 => by
    show (Jvm.Free.Multi.outerC c N h0 i).setSlot i (.ref (h0 + 1 + i)) = _
    rw [mi_outer c N h0 i, arrV_store]
    refine congrArg (arrV c N) (funext fun j => ?_)
    by_cases e : j = i
    · subst e
      simp [updV, va_rf]
    · by_cases h : j < i
      · simp [updV, e, h, Nat.lt_succ_of_lt h]
      · simp [updV, e, h, show ¬ j < i + 1 by omega]
/-- new int[n][k]: the outer array, then its rows -/
theorem mi_mna (hexec : p.tables.exec = Jvm.exec) (hb : c.code = cc) {own : String} {index : Nat} (hown : s.vm.findClass own = some m.cls) (hclink : (Cond.classLink own index "[[I").before args s = true) (hover : mi_AOA s) (harr : (Cond.arrayClass .int).before args s = true) (hP : va_P D cl ws H) (hS : va_S A H0 H locs) {n k : Int32} {N' K' : Nat} (hn : ¬ n < 0) (hk : ¬ k < 0) (hN : n.toNatClampNeg = N') (hM : k.toNatClampNeg = K')
    (hb1 : N' * 4 ≤ 536870912) (hb2 : K' * 4 ≤ 536870912) (hcells : cells + (1 + N') ≤ R.cells) (hslots : slots + (N' + N' * K') ≤ R.slots) (hdg : decode cc pc = .ok (.multianewarray index 2, 4))
    (kk : ∀ (cA cy : ClassId) (H1 : Heap), ArrOfT s cA (.array .int) → s.vm.findClass ("[" ++ (FieldType.array .int).toString) = some cA → ArrOfT s cy .int → s.vm.findClass ("[" ++ FieldType.int.toString) = some cy →
      va_P D cl ((ws ++ [(H.size, .inl (cA, N', .inr (.inr (.inr (.inr (fun i => if i < N' then some (H.size + 1 + i) else none))))))]) ++ (List.range N').map (fun i => (H.size + 1 + i, .inl (cy, K', .inl (fun _ => 0))))) H1 → H1.size = H.size + 1 + N' → va_S A H0 H1 locs →
      W p l e R s m args below meth c H1 locs (cells + 1 + N') (slots + N' + N' * K') Q (F0 m (pc + 4) ls (.ref H.size :: rest))) : W p l e R s m args below meth c H locs cells slots Q (F0 m pc ls (.int k :: .int n :: rest)) := by
  subst hN
  subst hM
  intro T hT Xs
  obtain ⟨vm₁, cA, cy, -, fA, fC, hO, hI, X', step⟩ := Xs.multianewarray2F (ty := .int) hexec hown hclink hover harr (g := F0 m pc ls (.int k :: .int n :: rest)) rfl (by rw [hb]; exact hdg) rfl hn hk hb1 hb2 (by omega) rfl rfl hcells hslots
  generalize hF : Jvm.Free.Multi.fill (T.setVm vm₁) cA cy n.toNatClampNeg k.toNatClampNeg (defaultValue .int) n.toNatClampNeg = F at X' step
  have hTh : (T.setVm vm₁).heap = H := hT
  obtain ⟨f1, f2, -, -⟩ := Jvm.Free.Multi.fill_facts (T.setVm vm₁) cA cy n.toNatClampNeg k.toNatClampNeg (defaultValue .int) n.toNatClampNeg
  rw [hF, hTh] at f1 f2
  have hold : ∀ x : Nat, x < H.size → F.heap[x]? = H[x]? := fun x hx => by
    have := Jvm.Free.Multi.fill_old (T.setVm vm₁) cA cy n.toNatClampNeg k.toNatClampNeg (defaultValue .int) (a := x) (by rw [hTh]; exact hx) n.toNatClampNeg
    rw [hF, hTh] at this
    exact this
  have hrow : ∀ j : Nat, j < n.toNatClampNeg → F.heap[H.size + 1 + j]? = some (vp_cell cy (k.toNatClampNeg, .inl (fun _ => 0))) := fun j hj => by
    have := Jvm.Free.Multi.fill_inner (T.setVm vm₁) cA cy n.toNatClampNeg k.toNatClampNeg (defaultValue .int) n.toNatClampNeg j hj
    rw [hF, hTh] at this
    rw [this, vp_cell_i, ← arrV_new]
    rfl
  have hout : Jvm.Free.Multi.outerC cA n.toNatClampNeg H.size n.toNatClampNeg = vp_cell cA (n.toNatClampNeg, .inr (.inr (.inr (.inr (fun i => if i < n.toNatClampNeg then some (H.size + 1 + i) else none))))) := by
    rw [vp_cell_q]
    exact mi_outer cA n.toNatClampNeg H.size n.toNatClampNeg
  rw [hout] at f2
  have hAr : ArrOfT s cA (.array .int) := fun N9 z9 => by
    obtain ⟨-, k9, hk9, cm9, hkk9⟩ := (hO 0 0 0).1
    exact ⟨(fun q hq => by cases hq), k9, hk9, cm9, hkk9⟩
  have hAi : ArrOfT s cy .int := fun N9 z9 => by
    obtain ⟨-, k9, hk9, cm9, hkk9⟩ := (hI 0 (.int 0)).1
    exact ⟨(fun q hq => by cases hq), k9, hk9, cm9, hkk9⟩
  obtain ⟨t, a1, b1⟩ := kk cA cy F.heap hAr fA hAi fC (((hP.kept (fun k9 x hx => hold x.1 ((hP k9 x hx).lt))).app (fun k9 x hx => by
    have h0 : k9 < 1 := (List.getElem?_eq_some_iff.mp hx).1
    rw [show k9 = 0 by omega] at hx
    cases hx
    exact f2)).app (fun k9 x hx => by
    obtain ⟨i, hi, rfl⟩ := List.mem_map.mp (List.mem_of_getElem? hx)
    exact hrow i (List.mem_range.mp hi))) (by rw [f1]) ⟨by rw [f1]; have := hS.1; omega, fun x h1 h2 => (hold x (Nat.lt_of_lt_of_le h1 hS.1)).trans (hS.2.1 x h1 h2), hS.2.2⟩ F rfl X'
  refine ⟨t, step t ?_, b1⟩
  have e : T.heap.size = H.size := by rw [hT]
  rw [e]
  exact a1
end MIR
end
section
/-! STEPS AT THE HEAP, and that the machine does them -/
noncomputable def mi_Cx (N : mi_N) (base : Nat) (ra : Nat → Nat) (cT : FieldType → ClassId) (D : va_G) (own : Nat) (cc : ByteArray) (nL : Nat) (p : Program) (s : State) (m : MethodId) (args : Array Value) (c : Code) : Prop :=
  p.tables.exec = Jvm.exec ∧ c.code = cc ∧ c.maxLocals = nL ∧ s.vm.findClass (mi_cname own) = some m.cls ∧ (∀ w ∈ mi_good, w.before args s = true) ∧ mi_Kn D s ∧ mi_Ext N base ra cT (fun q : Nat => base ≤ q) s s.heap ∧ base ≤ s.heap.size
noncomputable def mi_Wq (base : Nat) (ra : Nat → Nat) (cT : FieldType → ClassId) (D : va_G) (nL : Nat) (p : Program) (l : Launch) (e : Env) (R : Room) (s : State) (m : MethodId) (args : Array Value) (below : List Frame) (meth : Method) (c : Code) (Q : State → Prop) (pc : Nat) (ls : mi_L) (st : List Value) (cn : Nat × Nat) (h : mi_H) : Prop :=
  ∀ (H : Heap) (locs : List Loc) (ar : Array Slot), H.size = base + h.length → va_P D vwCl (mi_W base ra cT h) H → mi_KA cT h s → va_S (fun q : Nat => base ≤ q) s.heap H locs → lv_has ar nL (mi_ls (mi_ad base ra) ls) →
    W p l e R s m args below meth c H locs cn.1 cn.2 Q (F0 m pc ar (mi_st (mi_ad base ra) st))
noncomputable def mi_ok (own : Nat) (ini : Bool) (ins : Instr) (ax : mi_X) : Prop := ∀ i, mi_cpi ins = some i → (∃ w, mi_lkB (own, i, ax.2.2.1, ax.1, ax.2.1, ax.2.2.2.1) w = true) ∧ (ins = .putfield i → ∀ c, vwCl[ax.1]? = some c → (c.2.1 ax.2.1).2.2.2 = true → ini = true ∧ own = ax.1)
theorem mi_cname_cl {ci : Nat} {c : vw_C} (h : vwCl[ci]? = some c) : mi_cname ci = c.1 := by
  have hl : ci < 10 := (List.getElem?_eq_some_iff.mp h).1
  unfold mi_cname
  split <;> first | omega | (rw [h])
theorem mi_ref_lo {base : Nat} {ra : Nat → Nat} {a : Nat} {r : List Value} (h : Nat.blt a mi_RO = true) : mi_st (mi_ad base ra) (.ref a :: r) = .ref (base + a) :: mi_st (mi_ad base ra) r := by
  show Value.ref (mi_ad base ra a) :: _ = _
  rw [mi_ad_lo h]
  rfl
theorem mi_ref_hi {base : Nat} {ra : Nat → Nat} {a : Nat} {r : List Value} (h : Nat.blt a mi_RO = false) : mi_st (mi_ad base ra) (.ref a :: r) = .ref (ra (a - mi_RO)) :: mi_st (mi_ad base ra) r := by
  show Value.ref (mi_ad base ra a) :: _ = _
  rw [mi_ad_hi h]
  rfl
noncomputable def mi_sum (st : List Value) : Nat := (st.map fun v => v.category).sum
theorem mi_sum_st (ad : Nat → Nat) (st : List Value) : ((mi_st ad st).map fun v => v.category).sum = mi_sum st := by
  unfold mi_st mi_sum
  rw [List.map_map]
  congr 1
  apply List.map_congr_left
  intro v _
  exact mi_v_cat ad v
noncomputable def mi_hGet (N : mi_N) (ax : mi_X) (pc : Nat) (st : List Value) (cn : Nat × Nat) (h : mi_H) : Option (Nat × List Value × (Nat × Nat) × mi_H) := match st with
  | .ref a :: r => (match Nat.blt a mi_RO with
    | true => (match h[a]? with
      | some (.inl o) => (match Nat.beq o.1 ax.1 && Nat.beq ax.2.2.1 0 with
        | true => (match o.2[ax.2.1]? with
          | some v => some (pc + 3, v :: r, cn, h)
          | none => none)
        | false => none)
      | _ => none)
    | false => (match Nat.beq ax.2.2.1 13 with
      | true => (match N.2.2 (a - mi_RO) ax.2.1 with
        | some v => some (pc + 3, v :: r, cn, h)
        | none => none)
      | false => none))
  | _ => none
noncomputable def mi_hPut (ax : mi_X) (pc : Nat) (st : List Value) (cn : Nat × Nat) (h : mi_H) : Option (Nat × List Value × (Nat × Nat) × mi_H) := match st with
  | v :: .ref a :: r => (match Nat.blt a mi_RO with
    | true => (match h[a]? with
      | some (.inl o) => (match Nat.beq o.1 ax.1 && Nat.beq ax.2.2.1 0 && Nat.blt ax.2.1 o.2.length && mi_okv (mi_ft ax.1 ax.2.1) v with
        | true => some (pc + 3, r, cn, h.set a (.inl (o.1, o.2.set ax.2.1 v)))
        | false => none)
      | _ => none)
    | false => none)
  | _ => none
noncomputable def mi_hStat (N : mi_N) (ax : mi_X) (pc : Nat) (st : List Value) (cn : Nat × Nat) (h : mi_H) : Option (Nat × List Value × (Nat × Nat) × mi_H) := match Nat.beq ax.2.2.1 1 || Nat.beq ax.2.2.1 2 with
  | true => (match N.1 ax.1 with
    | some v => some (pc + 3, v :: st, cn, h)
    | none => none)
  | false => none
/-- is i no place of n -/
noncomputable def mi_off (i : Int32) (n : Nat) : Bool := decide (i < 0) || Nat.ble n i.toNatClampNeg
theorem mi_off_in {i : Int32} {n : Nat} (h : mi_off i n = false) : vp_in i n := by
  obtain ⟨h1, h2⟩ := Bool.or_eq_false_iff.mp h
  rintro (z | z)
  · exact of_decide_eq_false h1 z
  · rw [Nat.ble_eq_true_of_le z] at h2
    cases h2
theorem mi_off_lt {i : Int32} {n : Nat} (h : mi_off i n = false) : i.toNatClampNeg < n := by
  have := mi_off_in h
  unfold vp_in at this
  omega
noncomputable def mi_hIald (N : mi_N) (pc : Nat) (st : List Value) (cn : Nat × Nat) (h : mi_H) : Option (Nat × List Value × (Nat × Nat) × mi_H) := match st with
  | .int i :: .ref a :: r => (match Nat.blt a mi_RO with
    | true => (match h[a]? with
      | some (.inr (.int, .inl l)) => (match mi_off i l.length with
        | true => none
        | false => some (pc + 1, .int (l.getD i.toNatClampNeg 0) :: r, cn, h))
      | _ => none)
    | false => (match N.2.1 (a - mi_RO) with
      | some (.int, l) => (match mi_off i l.length with
        | true => none
        | false => some (pc + 1, .int (l.getD i.toNatClampNeg 0) :: r, cn, h))
      | _ => none))
  | _ => none
noncomputable def mi_hBald (N : mi_N) (pc : Nat) (st : List Value) (cn : Nat × Nat) (h : mi_H) : Option (Nat × List Value × (Nat × Nat) × mi_H) := match st with
  | .int i :: .ref a :: r => (match Nat.blt a mi_RO with
    | true => none
    | false => (match N.2.1 (a - mi_RO) with
      | some (.byte, l) => (match mi_off i l.length with
        | true => none
        | false => some (pc + 1, .int (l.getD i.toNatClampNeg 0) :: r, cn, h))
      | _ => none))
  | _ => none
noncomputable def mi_hLald (pc : Nat) (st : List Value) (cn : Nat × Nat) (h : mi_H) : Option (Nat × List Value × (Nat × Nat) × mi_H) := match st with
  | .int i :: .ref a :: r => (match Nat.blt a mi_RO with
    | true => (match h[a]? with
      | some (.inr (.long, .inr (.inl l))) => (match mi_off i l.length with
        | true => none
        | false => some (pc + 1, .long (l.getD i.toNatClampNeg 0) :: r, cn, h))
      | _ => none)
    | false => none)
  | _ => none
noncomputable def mi_hAald (pc : Nat) (st : List Value) (cn : Nat × Nat) (h : mi_H) : Option (Nat × List Value × (Nat × Nat) × mi_H) := match st with
  | .int i :: .ref a :: r => (match Nat.blt a mi_RO with
    | true => (match h[a]? with
      | some (.inr (ty, .inr (.inr l))) => (match mi_off i l.length || !ty.isReference with
        | true => none
        | false => (match l.getD i.toNatClampNeg none with
          | some k => some (pc + 1, .ref k :: r, cn, h)
          | none => none))
      | _ => none)
    | false => none)
  | _ => none
noncomputable def mi_hIast (pc : Nat) (st : List Value) (cn : Nat × Nat) (h : mi_H) : Option (Nat × List Value × (Nat × Nat) × mi_H) := match st with
  | .int x :: .int i :: .ref a :: r => (match Nat.blt a mi_RO with
    | true => (match h[a]? with
      | some (.inr (.int, .inl l)) => (match mi_off i l.length with
        | true => none
        | false => some (pc + 1, r, cn, h.set a (.inr (.int, .inl (l.set i.toNatClampNeg x)))))
      | _ => none)
    | false => none)
  | _ => none
noncomputable def mi_hLast (pc : Nat) (st : List Value) (cn : Nat × Nat) (h : mi_H) : Option (Nat × List Value × (Nat × Nat) × mi_H) := match st with
  | .long x :: .int i :: .ref a :: r => (match Nat.blt a mi_RO with
    | true => (match h[a]? with
      | some (.inr (.long, .inr (.inl l))) => (match mi_off i l.length with
        | true => none
        | false => some (pc + 1, r, cn, h.set a (.inr (.long, .inr (.inl (l.set i.toNatClampNeg x))))))
      | _ => none)
    | false => none)
  | _ => none
/-- the Shelf array alone -/
noncomputable def mi_hAast (pc : Nat) (st : List Value) (cn : Nat × Nat) (h : mi_H) : Option (Nat × List Value × (Nat × Nat) × mi_H) := match st with
  | .ref v :: .int i :: .ref a :: r => (match Nat.blt a mi_RO && Nat.blt v mi_RO with
    | true => (match h[a]?, h[v]? with
      | some (.inr (.object C, .inr (.inr l))), some (.inl o) => (match mi_off i l.length || !(Nat.beq o.1 5 && decide (C = RX5)) with
        | true => none
        | false => some (pc + 1, r, cn, h.set a (.inr (.object C, .inr (.inr (l.set i.toNatClampNeg (some v)))))))
      | _, _ => none)
    | false => none)
  | _ => none
noncomputable def mi_aLen : mi_A → Nat
  | .inl l => l.length
  | .inr (.inl l) => l.length
  | .inr (.inr l) => l.length
noncomputable def mi_hAlen (N : mi_N) (pc : Nat) (st : List Value) (cn : Nat × Nat) (h : mi_H) : Option (Nat × List Value × (Nat × Nat) × mi_H) := match st with
  | .ref a :: r => (match Nat.blt a mi_RO with
    | true => (match h[a]? with
      | some (.inr x) => some (pc + 1, .int (Int32.ofNat (mi_aLen x.2)) :: r, cn, h)
      | _ => none)
    | false => (match N.2.1 (a - mi_RO) with
      | some x => some (pc + 1, .int (Int32.ofNat x.2.length) :: r, cn, h)
      | none => none))
  | _ => none
noncomputable def mi_hLdc (ax : mi_X) (pc : Nat) (st : List Value) (cn : Nat × Nat) (h : mi_H) : Option (Nat × List Value × (Nat × Nat) × mi_H) := match ax.2.2.1 with
  | 6 => some (pc + 2, .int (Int32.ofInt ax.2.2.2.1) :: st, cn, h)
  | 8 => some (pc + 2, .ref (mi_RO + (10 + ax.1)) :: st, cn, h)
  | _ => none
noncomputable def mi_hLdw (ax : mi_X) (pc : Nat) (st : List Value) (cn : Nat × Nat) (h : mi_H) : Option (Nat × List Value × (Nat × Nat) × mi_H) := match ax.2.2.1 with
  | 6 => some (pc + 3, .int (Int32.ofInt ax.2.2.2.1) :: st, cn, h)
  | _ => none
noncomputable def mi_hLd2 (ax : mi_X) (pc : Nat) (st : List Value) (cn : Nat × Nat) (h : mi_H) : Option (Nat × List Value × (Nat × Nat) × mi_H) := match ax.2.2.1 with
  | 7 => some (pc + 3, .long (Int64.ofInt ax.2.2.2.1) :: st, cn, h)
  | _ => none
theorem mi_lk0 {o i a b w : Nat} {v : Int} (h : mi_lkB (o, i, 0, a, b, v) w = true) : ∃ c, vwCl[a]? = some c ∧ b < c.2.2 ∧ Cond.fieldLink (mi_cname o) i c.1 (c.2.1 b).2.1 (c.2.1 b).2.2.1 ∈ mi_good := by
  have h : (match vwCl[a]? with | some c => Nat.blt b c.2.2 && mi_wd w (.fieldLink (mi_cname o) i c.1 (c.2.1 b).2.1 (c.2.1 b).2.2.1) | none => false) = true := h
  cases e : vwCl[a]? with
  | none => rw [e] at h; cases h
  | some c =>
    rw [e] at h
    obtain ⟨h1, h2⟩ := Bool.and_eq_true_iff.mp h
    exact ⟨c, rfl, mi_blt h1, mi_wd_in h2⟩
theorem mi_lk1 {o i a b w : Nat} {v : Int} {z : String × String × String} (hz : mi_sn[a]? = some z) (h : mi_lkB (o, i, 1, a, b, v) w = true) : Cond.fieldLink (mi_cname o) i z.1 z.2.1 z.2.2 ∈ mi_good := by
  have h : (match mi_sn[a]? with | some z => mi_wd w (.fieldLink (mi_cname o) i z.1 z.2.1 z.2.2) | none => false) = true := h
  rw [hz] at h
  exact mi_wd_in h
theorem mi_lk2 {o i a b w : Nat} {v : Int} {z : String × String × String} (hz : mi_sn[a]? = some z) (h : mi_lkB (o, i, 2, a, b, v) w = true) : Cond.fieldLinkNest (mi_cname o) i z.1 z.2.1 z.2.2 "ThirdAfter" ∈ mi_nest := by
  have h : (match mi_sn[a]? with | some z => mi_nestB w (.fieldLinkNest (mi_cname o) i z.1 z.2.1 z.2.2 "ThirdAfter") | none => false) = true := h
  rw [hz] at h
  exact List.mem_of_getElem? (of_decide_eq_true h)
theorem mi_lk3 {o i a b w : Nat} {v : Int} {z : vw_C} (hz : vwCl[a]? = some z) (h : mi_lkB (o, i, 3, a, b, v) w = true) : Cond.classLink (mi_cname o) i z.1 ∈ mi_good := by
  have h : (match vwCl[a]? with | some c => mi_wd w (.classLink (mi_cname o) i c.1) | none => false) = true := h
  rw [hz] at h
  exact mi_wd_in h
theorem mi_lk5 {o i a b w : Nat} {v : Int} (h : mi_lkB (o, i, 5, a, b, v) w = true) : Cond.classLink (mi_cname o) i "[[I" ∈ mi_good := mi_wd_in (w := w) h
theorem mi_lk6 {o i a b w : Nat} {v : Int} (h : mi_lkB (o, i, 6, a, b, v) w = true) : Cond.constant (mi_cname o) i (Int32.ofInt v) ∈ mi_good := mi_wd_in (w := w) h
theorem mi_lk7 {o i a b w : Nat} {v : Int} (h : mi_lkB (o, i, 7, a, b, v) w = true) : Cond.constantLong (mi_cname o) i (Int64.ofInt v) ∈ mi_good := mi_wd_in (w := w) h
theorem mi_lk8 {o i a b w : Nat} {v : Int} (h : mi_lkB (o, i, 8, a, b, v) w = true) : (mi_cname o, i, mi_txt.getD a "", a) ∈ mi_strs := by
  have h : decide (mi_strs[w]? = some (mi_cname o, i, mi_txt.getD a "", a)) = true := h
  exact List.mem_of_getElem? (of_decide_eq_true h)
theorem mi_lk9 {o i a b w : Nat} {v : Int} {r : mi_M} (hz : mi_heads[a]? = some r) (h : mi_lkB (o, i, 9, a, b, v) w = true) : Cond.methodLink (mi_cname o) i r.1 ∈ mi_good := by
  have h : (match mi_heads[a]? with | some r => mi_wd w (.methodLink (mi_cname o) i r.1) | none => false) = true := h
  rw [hz] at h
  exact mi_wd_in h
theorem mi_lk10 {o i a b w : Nat} {v : Int} {r : mi_M} (hz : mi_heads[a]? = some r) (h : mi_lkB (o, i, 10, a, b, v) w = true) : Cond.methodLinkNest (mi_cname o) i r.1 "ThirdAfter" ∈ mi_nest := by
  have h : (match mi_heads[a]? with | some r => mi_nestB w (.methodLinkNest (mi_cname o) i r.1 "ThirdAfter") | none => false) = true := h
  rw [hz] at h
  exact List.mem_of_getElem? (of_decide_eq_true h)
theorem mi_lk11 {o i a b w : Nat} {v : Int} (h : mi_lkB (o, i, 11, a, b, v) w = true) : Cond.methodLink (mi_cname o) i arraycopyName ∈ mi_good := mi_wd_in (w := w) h
theorem mi_lk12 {o i a b w : Nat} {v : Int} (h : mi_lkB (o, i, 12, a, b, v) w = true) : Cond.methodLink (mi_cname o) i objectInit ∈ mi_good := mi_wd_in (w := w) h
theorem mi_lk13 {o i a b w : Nat} {v : Int} {z : String × String} (hz : mi_of[b]? = some z) (h : mi_lkB (o, i, 13, a, b, v) w = true) : Cond.fieldLink (mi_cname o) i "java/lang/String" z.1 z.2 ∈ mi_good := by
  have h : (match mi_of[b]? with | some z => mi_wd w (.fieldLink (mi_cname o) i "java/lang/String" z.1 z.2) | none => false) = true := h
  rw [hz] at h
  exact mi_wd_in h
theorem mi_lk14 {o i a b w : Nat} {v : Int} (h : mi_lkB (o, i, 14, a, b, v) w = true) : Cond.methodLink (mi_cname o) i Lib.Math.max.name ∈ mi_good := mi_wd_in (w := w) h
theorem mi_lk15 {o i a b w : Nat} {v : Int} (h : mi_lkB (o, i, 15, a, b, v) w = true) : Cond.methodLink (mi_cname o) i Lib.Math.min.name ∈ mi_good := mi_wd_in (w := w) h
section MIH
variable {p : Program} {l : Launch} {e : Env} {R : Room} {s : State} {m : MethodId} {args : Array Value} {below : List Frame} {meth : Method} {c : Code} {Q : State → Prop}
variable {cc : ByteArray} {pc nL : Nat} {ls : mi_L} {st : List Value} {len : Nat} {N : mi_N} {base own : Nat} {ra : Nat → Nat} {cT : FieldType → ClassId} {D : va_G} {ini : Bool} {ax : mi_X} {cn cn1 lim : Nat × Nat} {h h1 : mi_H} {pc1 : Nat} {st1 : List Value}

theorem mi_q_getfield {i : Nat} (cx : mi_Cx N base ra cT D own cc nL p s m args c) (hd : decode cc pc = .ok (.getfield i, len)) (hlen : mi_len (.getfield i) len = true) (hok : mi_ok own ini (.getfield i) ax) (hh : mi_hGet N ax pc st cn h = some (pc1, st1, cn1, h1)) (kk : mi_Wq base ra cT D nL p l e R s m args below meth c Q pc1 ls st1 cn1 h1) : mi_Wq base ra cT D nL p l e R s m args below meth c Q pc ls st cn h := by
  cases (beq_iff_eq.mp hlen)
  obtain ⟨hx, hb, hml, hown, hts, hKn, hX, hbs⟩ := cx
  intro H locs ar hsz hP hKA hS har
  obtain ⟨⟨w, hw⟩, -⟩ := hok i rfl
  unfold mi_hGet at hh
  split at hh
  next a r =>
    split at hh
    next hlo =>
      split at hh
      next o ho =>
        split at hh
        next hc =>
          split at hh
          next v hv =>
            cases hh
            obtain ⟨hc1, hc2⟩ := Bool.and_eq_true_iff.mp hc
            have hc1 := Nat.eq_of_beq_eq_true hc1
            have hc2 := Nat.eq_of_beq_eq_true hc2
            rw [hc2] at hw
            obtain ⟨q, hq, hk, hw⟩ := mi_lk0 hw
            have hcl := mi_cl_ok _ _ hq
            rw [mi_ref_lo hlo]
            have hq' : vwCl[o.1]? = some (q.1, q.2.1, q.2.2) := by rw [hc1]; exact hq
            refine va_get (D := D) (ci := o.1) (C := q.1) (T := q.2.1) (N := q.2.2) (v := mi_v (mi_ad base ra) v) (ref := q.1) hx hb hts hcl.1 hown hKn.K0 hP a (mi_W_get ho) hq' ax.2.1 hk (hts _ hw) (fun z hz => by rw [hcl.2.2.2.2.2.2.2 _ hk] at hz; exact hz) ?_ hd (kk H locs ar hsz hP hKA hS har)
            show (mi_st (mi_ad base ra) o.2)[ax.2.1]? = _
            unfold mi_st
            rw [List.getElem?_map, hv]
            rfl
          next => cases hh
        next => cases hh
      next => cases hh
    next hhi =>
      split at hh
      next hc =>
        split at hh
        next v hv =>
          cases hh
          rw [Nat.eq_of_beq_eq_true hc] at hw
          obtain ⟨-, z2, hz2, hF⟩ := hX.2.2.1 _ _ _ hv
          rw [mi_ref_hi hhi]
          exact vk_getf (ref := "java/lang/String") hx hb hF hS hown (hts _ (mi_lk13 hz2 hw)) (fun _ z => z) hd (kk H locs ar hsz hP hKA hS har)
        next => cases hh
      next => cases hh
  next => cases hh
theorem mi_q_putfield {i : Nat} (cx : mi_Cx N base ra cT D own cc nL p s m args c) (hd : decode cc pc = .ok (.putfield i, len)) (hlen : mi_len (.putfield i) len = true) (hok : mi_ok own ini (.putfield i) ax) (hini : ini = true → meth.name = "<init>") (hh : mi_hPut ax pc st cn h = some (pc1, st1, cn1, h1)) (kk : mi_Wq base ra cT D nL p l e R s m args below meth c Q pc1 ls st1 cn1 h1) : mi_Wq base ra cT D nL p l e R s m args below meth c Q pc ls st cn h := by
  cases (beq_iff_eq.mp hlen)
  obtain ⟨hx, hb, hml, hown, hts, hKn, hX, hbs⟩ := cx
  intro H locs ar hsz hP hKA hS har
  obtain ⟨⟨w, hw⟩, hfin⟩ := hok i rfl
  unfold mi_hPut at hh
  split at hh
  next v a r =>
    split at hh
    next hlo =>
      split at hh
      next o ho =>
        split at hh
        next hc =>
          cases hh
          obtain ⟨hc, hc4⟩ := Bool.and_eq_true_iff.mp hc
          obtain ⟨hc, hc3⟩ := Bool.and_eq_true_iff.mp hc
          obtain ⟨hc1, hc2⟩ := Bool.and_eq_true_iff.mp hc
          have hc1 := Nat.eq_of_beq_eq_true hc1
          have hc2 := Nat.eq_of_beq_eq_true hc2
          rw [hc2] at hw
          obtain ⟨q, hq, hk, hw⟩ := mi_lk0 hw
          have hcl := mi_cl_ok _ _ hq
          have hq' : vwCl[o.1]? = some (q.1, q.2.1, q.2.2) := by rw [hc1]; exact hq
          obtain ⟨hn, hf⟩ := mi_okv_n (ad := mi_ad base ra) hc4
          have e0 : mi_st (mi_ad base ra) (v :: .ref a :: st1) = mi_v (mi_ad base ra) v :: .ref (base + a) :: mi_st (mi_ad base ra) st1 := by
            rw [← mi_ref_lo hlo]
            rfl
          rw [e0]
          have hset : (mi_W base ra cT h).set a (base + a, .inr (o.1, (mi_st (mi_ad base ra) o.2).set ax.2.1 (mi_v (mi_ad base ra) v))) = mi_W base ra cT (h.set a (.inl (o.1, o.2.set ax.2.1 v))) := by
            rw [← mi_W_set]
            congr 2
            show _ = Sum.inr (o.1, mi_st (mi_ad base ra) (o.2.set ax.2.1 v))
            unfold mi_st
            rw [List.map_set]
          have hl : ax.2.1 < (mi_st (mi_ad base ra) o.2).length := by
            unfold mi_st
            rw [List.length_map]
            exact mi_blt hc3
          have hgo : ∀ (H1 : Heap) (locs1 : List Loc), va_P D vwCl ((mi_W base ra cT h).set a (base + a, .inr (o.1, (mi_st (mi_ad base ra) o.2).set ax.2.1 (mi_v (mi_ad base ra) v)))) H1 → H1.size = H.size → va_S (fun q : Nat => base ≤ q) s.heap H1 locs1 → W p l e R s m args below meth c H1 locs1 cn.1 cn.2 Q (F0 m (pc + 3) ar (mi_st (mi_ad base ra) st1)) := by
            intro H1 locs1 hP1 hz1 hS1
            rw [hset] at hP1
            exact kk H1 locs1 ar (by rw [hz1, hsz, List.length_set]) hP1 (hKA.obj a _) hS1 har
          by_cases hfi : (q.2.1 ax.2.1).2.2.2 = true
          · obtain ⟨hi, ho2⟩ := hfin rfl q hq hfi
            refine mi_putF (D := D) (ci := o.1) (C := q.1) (T := q.2.1) (N := q.2.2) (ref := q.1) hx hb hts hcl.1 (mi_ft ax.1) hcl.2.2.1 hcl.2.1 hown hKn.K0 hP (mi_D base ra cT h) hS a (mi_W_get ho) hq' ax.2.1 hk (hts _ hw) (fun z hz => by rw [hcl.2.2.2.2.2.2.2 _ hk] at hz; exact hz) (Or.inr ⟨hfi, hini hi, by rw [hcl.2.2.2.2.2.2.2 _ hk, ho2]; exact (mi_cname_cl hq).symm⟩) (hcl.2.2.1 _ hk) hn hf hl hd hgo
          · refine mi_putF (D := D) (ci := o.1) (C := q.1) (T := q.2.1) (N := q.2.2) (ref := q.1) hx hb hts hcl.1 (mi_ft ax.1) hcl.2.2.1 hcl.2.1 hown hKn.K0 hP (mi_D base ra cT h) hS a (mi_W_get ho) hq' ax.2.1 hk (hts _ hw) (fun z hz => by rw [hcl.2.2.2.2.2.2.2 _ hk] at hz; exact hz) (Or.inl (Bool.eq_false_iff.mpr hfi)) (hcl.2.2.1 _ hk) hn hf hl hd hgo
        next => cases hh
      next => cases hh
    next => cases hh
  next => cases hh
theorem mi_q_getstatic {i : Nat} (cx : mi_Cx N base ra cT D own cc nL p s m args c) (hd : decode cc pc = .ok (.getstatic i, len)) (hlen : mi_len (.getstatic i) len = true) (hok : mi_ok own ini (.getstatic i) ax) (hh : mi_hStat N ax pc st cn h = some (pc1, st1, cn1, h1)) (kk : mi_Wq base ra cT D nL p l e R s m args below meth c Q pc1 ls st1 cn1 h1) : mi_Wq base ra cT D nL p l e R s m args below meth c Q pc ls st cn h := by
  cases (beq_iff_eq.mp hlen)
  obtain ⟨hx, hb, hml, hown, hts, hKn, hX, hbs⟩ := cx
  intro H locs ar hsz hP hKA hS har
  obtain ⟨⟨w, hw⟩, -⟩ := hok i rfl
  unfold mi_hStat at hh
  split at hh
  next hc =>
    split at hh
    next v hv =>
      cases hh
      obtain ⟨q, hq, hZ⟩ := hX.1 _ _ hv
      rcases Bool.or_eq_true_iff.mp hc with h1 | h1
      · rw [Nat.eq_of_beq_eq_true h1] at hw
        exact va_gets hx hb hZ hS hown (hts _ (mi_lk1 hq hw)) (fun _ z => z) hd (kk H locs ar hsz hP hKA hS har)
      · rw [Nat.eq_of_beq_eq_true h1] at hw
        have hn := hX.2.2.2.1 _ (mi_lk2 hq hw)
        exact va_getsN hx hb hZ hS hown (hn.use rfl) (fun _ z => z) hd (kk H locs ar hsz hP hKA hS har)
    next => cases hh
  next => cases hh
theorem mi_q_iaload (cx : mi_Cx N base ra cT D own cc nL p s m args c) (hd : decode cc pc = .ok (.iaload, len)) (hlen : mi_len (.iaload) len = true) (hok : mi_ok own ini (.iaload) ax) (hh : mi_hIald N pc st cn h = some (pc1, st1, cn1, h1)) (kk : mi_Wq base ra cT D nL p l e R s m args below meth c Q pc1 ls st1 cn1 h1) : mi_Wq base ra cT D nL p l e R s m args below meth c Q pc ls st cn h := by
  cases (beq_iff_eq.mp hlen)
  obtain ⟨hx, hb, hml, hown, hts, hKn, hX, hbs⟩ := cx
  intro H locs ar hsz hP hKA hS har
  unfold mi_hIald at hh
  split at hh
  next i a r =>
    split at hh
    next hlo =>
      split at hh
      next ll hl =>
        split at hh
        next => cases hh
        next hi =>
          cases hh
          have e0 : mi_st (mi_ad base ra) (.int i :: .ref a :: r) = .int i :: .ref (base + a) :: mi_st (mi_ad base ra) r := by
            rw [← mi_ref_lo hlo]
            rfl
          rw [e0]
          exact va_iald (f := fun j => ll.getD j 0) hx hb (hKA.K hKn hl) hP a 0 (mi_W_get hl) rfl (mi_off_in hi) hd (kk H locs ar hsz hP hKA hS har)
      next => cases hh
    next hhi =>
      split at hh
      next ll hl =>
        split at hh
        next => cases hh
        next hi =>
          cases hh
          have e0 : mi_st (mi_ad base ra) (.int i :: .ref a :: r) = .int i :: .ref (ra (a - mi_RO)) :: mi_st (mi_ad base ra) r := by
            rw [← mi_ref_hi hhi]
            rfl
          rw [e0]
          exact va_ti hx hb (hX.2.1 _ _ _ hl) hS (mi_off_in hi) rfl hd (kk H locs ar hsz hP hKA hS har)
      next => cases hh
  next => cases hh
theorem mi_q_baload (cx : mi_Cx N base ra cT D own cc nL p s m args c) (hd : decode cc pc = .ok (.baload, len)) (hlen : mi_len (.baload) len = true) (hok : mi_ok own ini (.baload) ax) (hh : mi_hBald N pc st cn h = some (pc1, st1, cn1, h1)) (kk : mi_Wq base ra cT D nL p l e R s m args below meth c Q pc1 ls st1 cn1 h1) : mi_Wq base ra cT D nL p l e R s m args below meth c Q pc ls st cn h := by
  cases (beq_iff_eq.mp hlen)
  obtain ⟨hx, hb, hml, hown, hts, hKn, hX, hbs⟩ := cx
  intro H locs ar hsz hP hKA hS har
  unfold mi_hBald at hh
  split at hh
  next i a r =>
    split at hh
    next => cases hh
    next hhi =>
      split at hh
      next ll hl =>
        split at hh
        next => cases hh
        next hi =>
          cases hh
          have e0 : mi_st (mi_ad base ra) (.int i :: .ref a :: r) = .int i :: .ref (ra (a - mi_RO)) :: mi_st (mi_ad base ra) r := by
            rw [← mi_ref_hi hhi]
            rfl
          rw [e0]
          exact va_tb hx hb (hX.2.1 _ _ _ hl) hS (mi_off_in hi) rfl hd (kk H locs ar hsz hP hKA hS har)
      next => cases hh
  next => cases hh
theorem mi_q_laload (cx : mi_Cx N base ra cT D own cc nL p s m args c) (hd : decode cc pc = .ok (.laload, len)) (hlen : mi_len (.laload) len = true) (hok : mi_ok own ini (.laload) ax) (hh : mi_hLald pc st cn h = some (pc1, st1, cn1, h1)) (kk : mi_Wq base ra cT D nL p l e R s m args below meth c Q pc1 ls st1 cn1 h1) : mi_Wq base ra cT D nL p l e R s m args below meth c Q pc ls st cn h := by
  cases (beq_iff_eq.mp hlen)
  obtain ⟨hx, hb, hml, hown, hts, hKn, hX, hbs⟩ := cx
  intro H locs ar hsz hP hKA hS har
  unfold mi_hLald at hh
  split at hh
  next i a r =>
    split at hh
    next hlo =>
      split at hh
      next ll hl =>
        split at hh
        next => cases hh
        next hi =>
          cases hh
          have e0 : mi_st (mi_ad base ra) (.int i :: .ref a :: r) = .int i :: .ref (base + a) :: mi_st (mi_ad base ra) r := by
            rw [← mi_ref_lo hlo]
            rfl
          rw [e0]
          exact va_lald (f := fun j => ll.getD j 0) hx hb (hKA.K hKn hl) hP a 0 (mi_W_get hl) rfl (mi_off_in hi) hd (kk H locs ar hsz hP hKA hS har)
      next => cases hh
    next => cases hh
  next => cases hh
theorem mi_q_aaload (cx : mi_Cx N base ra cT D own cc nL p s m args c) (hd : decode cc pc = .ok (.aaload, len)) (hlen : mi_len (.aaload) len = true) (hok : mi_ok own ini (.aaload) ax) (hh : mi_hAald pc st cn h = some (pc1, st1, cn1, h1)) (kk : mi_Wq base ra cT D nL p l e R s m args below meth c Q pc1 ls st1 cn1 h1) : mi_Wq base ra cT D nL p l e R s m args below meth c Q pc ls st cn h := by
  cases (beq_iff_eq.mp hlen)
  obtain ⟨hx, hb, hml, hown, hts, hKn, hX, hbs⟩ := cx
  intro H locs ar hsz hP hKA hS har
  unfold mi_hAald at hh
  split at hh
  next i a r =>
    split at hh
    next hlo =>
      split at hh
      next ty ll hl =>
        split at hh
        next => cases hh
        next hi =>
          split at hh
          next k hk =>
            cases hh
            obtain ⟨hi, hty⟩ := Bool.or_eq_false_iff.mp hi
            have e0 : mi_st (mi_ad base ra) (.int i :: .ref a :: r) = .int i :: .ref (base + a) :: mi_st (mi_ad base ra) r := by
              rw [← mi_ref_lo hlo]
              rfl
            rw [e0]
            have hcell : H[base + a]? = some (vp_cell (cT ty) (mi_rA (mi_ad base ra) (.inr (.inr ll)))) := hP a _ (mi_W_get hl)
            refine W.aald (ty := ty) (v := .ref (mi_ad base ra k)) hx hb hcell ((hKA a ty _ hl).1 _ _) (by simpa using hty) (fun z => by cases z) ?_ ?_ rfl rfl hd (kk H locs ar hsz hP hKA hS har)
            · show ¬ (i < 0 ∨ (arrV _ _ _).slots.size ≤ i.toNatClampNeg)
              rw [arrV_size]
              exact mi_off_in hi
            · refine (arrV_read _ _ (mi_off_lt hi)).trans ?_
              show some (va_rf ((ll.getD i.toNatClampNeg none).map (mi_ad base ra))) = _
              rw [hk]
              rfl
          next => cases hh
      next => cases hh
    next => cases hh
  next => cases hh
theorem mi_q_iastore (cx : mi_Cx N base ra cT D own cc nL p s m args c) (hd : decode cc pc = .ok (.iastore, len)) (hlen : mi_len (.iastore) len = true) (hok : mi_ok own ini (.iastore) ax) (hh : mi_hIast pc st cn h = some (pc1, st1, cn1, h1)) (kk : mi_Wq base ra cT D nL p l e R s m args below meth c Q pc1 ls st1 cn1 h1) : mi_Wq base ra cT D nL p l e R s m args below meth c Q pc ls st cn h := by
  cases (beq_iff_eq.mp hlen)
  obtain ⟨hx, hb, hml, hown, hts, hKn, hX, hbs⟩ := cx
  intro H locs ar hsz hP hKA hS har
  unfold mi_hIast at hh
  split at hh
  next x i a r =>
    split at hh
    next hlo =>
      split at hh
      next ll hl =>
        split at hh
        next => cases hh
        next hi =>
          cases hh
          have e0 : mi_st (mi_ad base ra) (.int x :: .int i :: .ref a :: st1) = .int x :: .int i :: .ref (base + a) :: mi_st (mi_ad base ra) st1 := by
            rw [← mi_ref_lo hlo]
            rfl
          rw [e0]
          refine mi_iast (f := fun j => ll.getD j 0) hx hb (hKA.K hKn hl) hP (mi_D base ra cT h) hS a 0 (mi_W_get hl) rfl (mi_off_in hi) hd (fun H1 locs1 hP1 hz1 hS1 => ?_)
          refine kk H1 locs1 ar (by rw [hz1, hsz, List.length_set]) ?_ (hKA.arr hl _) hS1 har
          rw [← mi_W_set]
          have e1 : (fun j => (ll.set i.toNatClampNeg x).getD j 0) = upd (fun j => ll.getD j 0) i.toNatClampNeg x := mi_getD_set ll 0 _ x (mi_off_lt hi)
          show va_P D vwCl ((mi_W base ra cT h).set a (base + a, .inl (cT .int, (ll.set i.toNatClampNeg x).length, .inl (fun j => (ll.set i.toNatClampNeg x).getD j 0)))) H1
          rw [e1, List.length_set]
          exact hP1
      next => cases hh
    next => cases hh
  next => cases hh
theorem mi_q_lastore (cx : mi_Cx N base ra cT D own cc nL p s m args c) (hd : decode cc pc = .ok (.lastore, len)) (hlen : mi_len (.lastore) len = true) (hok : mi_ok own ini (.lastore) ax) (hh : mi_hLast pc st cn h = some (pc1, st1, cn1, h1)) (kk : mi_Wq base ra cT D nL p l e R s m args below meth c Q pc1 ls st1 cn1 h1) : mi_Wq base ra cT D nL p l e R s m args below meth c Q pc ls st cn h := by
  cases (beq_iff_eq.mp hlen)
  obtain ⟨hx, hb, hml, hown, hts, hKn, hX, hbs⟩ := cx
  intro H locs ar hsz hP hKA hS har
  unfold mi_hLast at hh
  split at hh
  next x i a r =>
    split at hh
    next hlo =>
      split at hh
      next ll hl =>
        split at hh
        next => cases hh
        next hi =>
          cases hh
          have e0 : mi_st (mi_ad base ra) (.long x :: .int i :: .ref a :: st1) = .long x :: .int i :: .ref (base + a) :: mi_st (mi_ad base ra) st1 := by
            rw [← mi_ref_lo hlo]
            rfl
          rw [e0]
          refine mi_last (f := fun j => ll.getD j 0) hx hb (hKA.K hKn hl) hP (mi_D base ra cT h) hS a 0 (mi_W_get hl) rfl (mi_off_in hi) hd (fun H1 locs1 hP1 hz1 hS1 => ?_)
          refine kk H1 locs1 ar (by rw [hz1, hsz, List.length_set]) ?_ (hKA.arr hl _) hS1 har
          rw [← mi_W_set]
          have e1 : (fun j => (ll.set i.toNatClampNeg x).getD j 0) = vp_updL (fun j => ll.getD j 0) i.toNatClampNeg x := mi_getD_set ll 0 _ x (mi_off_lt hi)
          show va_P D vwCl ((mi_W base ra cT h).set a (base + a, .inl (cT .long, (ll.set i.toNatClampNeg x).length, .inr (.inl (fun j => (ll.set i.toNatClampNeg x).getD j 0))))) H1
          rw [e1, List.length_set]
          exact hP1
      next => cases hh
    next => cases hh
  next => cases hh
theorem mi_q_arraylength (cx : mi_Cx N base ra cT D own cc nL p s m args c) (hd : decode cc pc = .ok (.arraylength, len)) (hlen : mi_len (.arraylength) len = true) (hok : mi_ok own ini (.arraylength) ax) (hh : mi_hAlen N pc st cn h = some (pc1, st1, cn1, h1)) (kk : mi_Wq base ra cT D nL p l e R s m args below meth c Q pc1 ls st1 cn1 h1) : mi_Wq base ra cT D nL p l e R s m args below meth c Q pc ls st cn h := by
  cases (beq_iff_eq.mp hlen)
  obtain ⟨hx, hb, hml, hown, hts, hKn, hX, hbs⟩ := cx
  intro H locs ar hsz hP hKA hS har
  unfold mi_hAlen at hh
  split at hh
  next a r =>
    split at hh
    next hlo =>
      split at hh
      next x hx0 =>
        cases hh
        rw [mi_ref_lo hlo]
        refine va_alen hx hb (hKA.K (ty := x.1) (a := x.2) hKn hx0) hP a 0 (mi_W_get hx0) rfl ?_ hd (kk H locs ar hsz hP hKA hS har)
        rcases x with ⟨ty, z⟩
        rcases z with z | z | z <;> rfl
      next => cases hh
    next hhi =>
      split at hh
      next x hx0 =>
        cases hh
        rw [mi_ref_hi hhi]
        exact va_tlen hx hb (hX.2.1 _ x.1 x.2 hx0) hS rfl hd (kk H locs ar hsz hP hKA hS har)
      next => cases hh
  next => cases hh
theorem mi_q_ldc {i : Nat} (cx : mi_Cx N base ra cT D own cc nL p s m args c) (hd : decode cc pc = .ok (.ldc i, len)) (hlen : mi_len (.ldc i) len = true) (hok : mi_ok own ini (.ldc i) ax) (hh : mi_hLdc ax pc st cn h = some (pc1, st1, cn1, h1)) (kk : mi_Wq base ra cT D nL p l e R s m args below meth c Q pc1 ls st1 cn1 h1) : mi_Wq base ra cT D nL p l e R s m args below meth c Q pc ls st cn h := by
  cases (beq_iff_eq.mp hlen)
  obtain ⟨hx, hb, hml, hown, hts, hKn, hX, hbs⟩ := cx
  intro H locs ar hsz hP hKA hS har
  obtain ⟨⟨w, hw⟩, -⟩ := hok i rfl
  unfold mi_hLdc at hh
  split at hh
  next e0 =>
    cases hh
    rw [e0] at hw
    exact lv_ldc hx hb hown (hts _ (mi_lk6 hw)) hd (kk H locs ar hsz hP hKA hS har)
  next e0 =>
    cases hh
    rw [e0] at hw
    have hq := hX.2.2.2.2.1 _ (mi_lk8 hw)
    refine va_ldcS hx hb hown hq hd ?_
    have hk := kk H locs ar hsz hP hKA hS har
    have hbl : Nat.blt (mi_RO + (10 + ax.1)) mi_RO = false := by
      cases hz : Nat.blt (mi_RO + (10 + ax.1)) mi_RO with
      | false => rfl
      | true =>
        have := mi_blt hz
        omega
    rw [mi_ref_hi hbl] at hk
    rw [show mi_RO + (10 + ax.1) - mi_RO = 10 + ax.1 by omega] at hk
    exact hk
  next => cases hh
theorem mi_q_ldc_w {i : Nat} (cx : mi_Cx N base ra cT D own cc nL p s m args c) (hd : decode cc pc = .ok (.ldc_w i, len)) (hlen : mi_len (.ldc_w i) len = true) (hok : mi_ok own ini (.ldc_w i) ax) (hh : mi_hLdw ax pc st cn h = some (pc1, st1, cn1, h1)) (kk : mi_Wq base ra cT D nL p l e R s m args below meth c Q pc1 ls st1 cn1 h1) : mi_Wq base ra cT D nL p l e R s m args below meth c Q pc ls st cn h := by
  cases (beq_iff_eq.mp hlen)
  obtain ⟨hx, hb, hml, hown, hts, hKn, hX, hbs⟩ := cx
  intro H locs ar hsz hP hKA hS har
  obtain ⟨⟨w, hw⟩, -⟩ := hok i rfl
  unfold mi_hLdw at hh
  split at hh
  next e0 =>
    cases hh
    rw [e0] at hw
    exact lv_ldcw hx hb hown (hts _ (mi_lk6 hw)) hd (kk H locs ar hsz hP hKA hS har)
  next => cases hh
theorem mi_q_ldc2_w {i : Nat} (cx : mi_Cx N base ra cT D own cc nL p s m args c) (hd : decode cc pc = .ok (.ldc2_w i, len)) (hlen : mi_len (.ldc2_w i) len = true) (hok : mi_ok own ini (.ldc2_w i) ax) (hh : mi_hLd2 ax pc st cn h = some (pc1, st1, cn1, h1)) (kk : mi_Wq base ra cT D nL p l e R s m args below meth c Q pc1 ls st1 cn1 h1) : mi_Wq base ra cT D nL p l e R s m args below meth c Q pc ls st cn h := by
  cases (beq_iff_eq.mp hlen)
  obtain ⟨hx, hb, hml, hown, hts, hKn, hX, hbs⟩ := cx
  intro H locs ar hsz hP hKA hS har
  obtain ⟨⟨w, hw⟩, -⟩ := hok i rfl
  unfold mi_hLd2 at hh
  split at hh
  next e0 =>
    cases hh
    rw [e0] at hw
    exact lv_ldc2 hx hb hown (hts _ (mi_lk7 hw)) hd (kk H locs ar hsz hP hKA hS har)
  next => cases hh
end MIH
end
section
/-! the Shelf array's store, copies, makings, Object's constructor, max and min -/
noncomputable def mi_hCopy (pc : Nat) (st : List Value) (cn : Nat × Nat) (h : mi_H) : Option (Nat × List Value × (Nat × Nat) × mi_H) := match st with
  | .int n :: .int dp :: .ref a :: .int sp :: .ref a0 :: r => (match Nat.blt a mi_RO && Nat.blt a0 mi_RO && Nat.ble (mi_sum r) 8 && !(decide (sp < 0) || decide (dp < 0) || decide (n < 0)) with
    | true => (match h[a0]?, h[a]? with
      | some (.inr (.int, .inl l)), some (.inr (.int, .inl g)) => (match Nat.ble (sp.toNatClampNeg + n.toNatClampNeg) l.length && Nat.ble (dp.toNatClampNeg + n.toNatClampNeg) g.length with
        | true => some (pc + 3, r, cn, h.set a (.inr (.int, .inl (mi_cpy l g sp.toNatClampNeg dp.toNatClampNeg n.toNatClampNeg))))
        | false => none)
      | some (.inr (.long, .inr (.inl l))), some (.inr (.long, .inr (.inl g))) => (match Nat.ble (sp.toNatClampNeg + n.toNatClampNeg) l.length && Nat.ble (dp.toNatClampNeg + n.toNatClampNeg) g.length with
        | true => some (pc + 3, r, cn, h.set a (.inr (.long, .inr (.inl (mi_cpy l g sp.toNatClampNeg dp.toNatClampNeg n.toNatClampNeg)))))
        | false => none)
      | _, _ => none)
    | false => none)
  | _ => none
noncomputable def mi_hNew (ax : mi_X) (lim : Nat × Nat) (pc : Nat) (st : List Value) (cn : Nat × Nat) (h : mi_H) : Option (Nat × List Value × (Nat × Nat) × mi_H) := match vwCl[ax.1]? with
  | some q => (match Nat.beq ax.2.2.1 3 && Nat.ble (cn.1 + 1) lim.1 && Nat.ble (cn.2 + q.2.2) lim.2 && Nat.blt h.length mi_RO with
    | true => some (pc + 3, .ref h.length :: st, (cn.1 + 1, cn.2 + q.2.2), h ++ [.inl (ax.1, mi_df ax.1)])
    | false => none)
  | none => none
noncomputable def mi_hNewa (t : ArrayType) (lim : Nat × Nat) (pc : Nat) (st : List Value) (cn : Nat × Nat) (h : mi_H) : Option (Nat × List Value × (Nat × Nat) × mi_H) := match st with
  | .int n :: r => (match !decide (n < 0) && Nat.ble n.toNatClampNeg 100000 && Nat.ble (cn.1 + 1) lim.1 && Nat.ble (cn.2 + n.toNatClampNeg) lim.2 && Nat.blt h.length mi_RO with
    | true => (match t with
      | .int => some (pc + 2, .ref h.length :: r, (cn.1 + 1, cn.2 + n.toNatClampNeg), h ++ [.inr (.int, .inl (List.replicate n.toNatClampNeg 0))])
      | .long => some (pc + 2, .ref h.length :: r, (cn.1 + 1, cn.2 + n.toNatClampNeg), h ++ [.inr (.long, .inr (.inl (List.replicate n.toNatClampNeg 0)))])
      | _ => none)
    | false => none)
  | _ => none
noncomputable def mi_hNewq (ax : mi_X) (lim : Nat × Nat) (pc : Nat) (st : List Value) (cn : Nat × Nat) (h : mi_H) : Option (Nat × List Value × (Nat × Nat) × mi_H) := match st with
  | .int n :: r => (match Nat.beq ax.2.2.1 3 && Nat.beq ax.1 5 && !decide (n < 0) && Nat.ble n.toNatClampNeg 100000 && Nat.ble (cn.1 + 1) lim.1 && Nat.ble (cn.2 + n.toNatClampNeg) lim.2 && Nat.blt h.length mi_RO with
    | true => some (pc + 3, .ref h.length :: r, (cn.1 + 1, cn.2 + n.toNatClampNeg), h ++ [.inr (.object "ThirdAfter$Shelf", .inr (.inr (List.replicate n.toNatClampNeg none)))])
    | false => none)
  | _ => none
noncomputable def mi_hMna (ax : mi_X) (d : Nat) (lim : Nat × Nat) (pc : Nat) (st : List Value) (cn : Nat × Nat) (h : mi_H) : Option (Nat × List Value × (Nat × Nat) × mi_H) := match st with
  | .int k :: .int n :: r => (match Nat.beq ax.2.2.1 5 && Nat.beq d 2 && !decide (n < 0) && !decide (k < 0) && Nat.ble n.toNatClampNeg 1000 && Nat.ble k.toNatClampNeg 1000 && Nat.ble (cn.1 + (1 + n.toNatClampNeg)) lim.1 && Nat.ble (cn.2 + (n.toNatClampNeg + n.toNatClampNeg * k.toNatClampNeg)) lim.2 && Nat.ble (h.length + 1 + n.toNatClampNeg) mi_RO with
    | true => some (pc + 4, .ref h.length :: r, (cn.1 + 1 + n.toNatClampNeg, cn.2 + n.toNatClampNeg + n.toNatClampNeg * k.toNatClampNeg), (h ++ [.inr (.array .int, .inr (.inr ((List.range n.toNatClampNeg).map (fun i => some (h.length + 1 + i)))))]) ++ List.replicate n.toNatClampNeg (.inr (.int, .inl (List.replicate k.toNatClampNeg 0))))
    | false => none)
  | _ => none
noncomputable def mi_hObj (ax : mi_X) (pc : Nat) (st : List Value) (cn : Nat × Nat) (h : mi_H) : Option (Nat × List Value × (Nat × Nat) × mi_H) := match st with
  | .ref _ :: r => (match Nat.beq ax.2.2.1 12 && Nat.ble (mi_sum r) 8 with
    | true => some (pc + 3, r, cn, h)
    | false => none)
  | _ => none
noncomputable def mi_hMm (ax : mi_X) (pc : Nat) (st : List Value) (cn : Nat × Nat) (h : mi_H) : Option (Nat × List Value × (Nat × Nat) × mi_H) := match st with
  | .int y :: .int x :: r => (match Nat.ble (mi_sum r) 8 with
    | true => (match ax.2.2.1 with
      | 14 => some (pc + 3, .int (bif decide (x < y) then y else x) :: r, cn, h)
      | 15 => some (pc + 3, .int (bif decide (y < x) then y else x) :: r, cn, h)
      | _ => none)
    | false => none)
  | _ => none
theorem mi_bif {c : Prop} [h : Decidable c] {α : Type} (a b : α) : (bif decide c then a else b) = if c then a else b := by
  by_cases hc : c <;> simp [hc]
theorem mi_W_app (base : Nat) (ra : Nat → Nat) (cT : FieldType → ClassId) (h g : mi_H) : mi_W base ra cT (h ++ g) = mi_W base ra cT h ++ g.mapIdx (fun k x => (base + (h.length + k), mi_rE (mi_ad base ra) cT x)) := by
  unfold mi_W
  rw [List.mapIdx_append]
  congr 2
  funext k x
  rw [Nat.add_comm k]
theorem mi_rep {α : Type} (n : Nat) (d : α) : (fun i => (List.replicate n d).getD i d) = fun _ => d := by
  funext i
  rw [List.getD_eq_getElem?_getD, List.getElem?_replicate]
  split <;> rfl
section MIN
variable {p : Program} {l : Launch} {e : Env} {R : Room} {s : State} {m : MethodId} {args : Array Value} {below : List Frame} {meth : Method} {c : Code} {Q : State → Prop}
variable {cc : ByteArray} {pc nL : Nat} {ls : mi_L} {st : List Value} {len : Nat} {N : mi_N} {base own : Nat} {ra : Nat → Nat} {cT : FieldType → ClassId} {D : va_G} {ini : Bool} {ax : mi_X} {cn cn1 lim : Nat × Nat} {h h1 : mi_H} {pc1 : Nat} {st1 : List Value}
theorem mi_q_aastore (cx : mi_Cx N base ra cT D own cc nL p s m args c) (hd : decode cc pc = .ok (.aastore, len)) (hlen : mi_len (.aastore) len = true) (hok : mi_ok own ini (.aastore) ax) (hh : mi_hAast pc st cn h = some (pc1, st1, cn1, h1)) (kk : mi_Wq base ra cT D nL p l e R s m args below meth c Q pc1 ls st1 cn1 h1) : mi_Wq base ra cT D nL p l e R s m args below meth c Q pc ls st cn h := by
  cases (beq_iff_eq.mp hlen)
  obtain ⟨hx, hb, hml, hown, hts, hKn, hX, hbs⟩ := cx
  intro H locs ar hsz hP hKA hS har
  unfold mi_hAast at hh
  split at hh
  next v i a r =>
    split at hh
    next hlo =>
      obtain ⟨hlo, hlv⟩ := Bool.and_eq_true_iff.mp hlo
      split at hh
      next C ll o hl ho =>
        split at hh
        next => cases hh
        next hi =>
          cases hh
          obtain ⟨hi2, hc⟩ := Bool.or_eq_false_iff.mp hi
          have hc : (Nat.beq o.1 5 && decide (C = RX5)) = true := by simpa using hc
          obtain ⟨hc1, hc2⟩ := Bool.and_eq_true_iff.mp hc
          have hc1 := Nat.eq_of_beq_eq_true hc1
          have hc2 := of_decide_eq_true hc2
          subst hc2
          have e0 : mi_st (mi_ad base ra) (.ref v :: .int i :: .ref a :: st1) = .ref (base + v) :: .int i :: .ref (base + a) :: mi_st (mi_ad base ra) st1 := by
            rw [← mi_ref_lo hlo]
            show Value.ref (mi_ad base ra v) :: _ = _
            rw [mi_ad_lo hlv]
            rfl
          rw [e0]
          refine mi_aast (r := (RX5, TX5, 5)) (f := fun j => (ll.getD j none).map (mi_ad base ra)) hx hb (hKA.K hKn hl) hP (mi_D base ra cT h) hS a 0 v o.1 (mi_W_get hl) rfl (mi_W_get ho) (by rw [hc1]; rfl) (mi_off_in hi2) hd (fun H1 locs1 hP1 hz1 hS1 => ?_)
          refine kk H1 locs1 ar (by rw [hz1, hsz, List.length_set]) ?_ (hKA.arr hl _) hS1 har
          rw [← mi_W_set]
          have e1 : (fun j => ((ll.set i.toNatClampNeg (some v)).getD j none).map (mi_ad base ra)) = va_up (fun j => (ll.getD j none).map (mi_ad base ra)) i.toNatClampNeg (some (base + v)) := by
            have e2 := mi_getD_set ll none _ (some v) (mi_off_lt hi2)
            funext j
            have e3 : (ll.set i.toNatClampNeg (some v)).getD j none = if j = i.toNatClampNeg then some v else ll.getD j none := congrFun e2 j
            rw [e3]
            unfold va_up
            by_cases ej : j = i.toNatClampNeg
            · rw [if_pos ej, if_pos ej, Option.map_some, mi_ad_lo hlv]
            · rw [if_neg ej, if_neg ej]
          show va_P D vwCl ((mi_W base ra cT h).set a (base + a, .inl (cT (.object RX5), (ll.set i.toNatClampNeg (some v)).length, .inr (.inr (.inr (.inr (fun j => ((ll.set i.toNatClampNeg (some v)).getD j none).map (mi_ad base ra)))))))) H1
          rw [e1, List.length_set]
          exact hP1
      next => cases hh
    next => cases hh
  next => cases hh
theorem mi_copyroom {ad : Nat → Nat} {r : List Value} {x : Nat} (h : mi_sum r ≤ 8) (hx : 60 ≤ x) : ((mi_st ad r).map fun v => v.category).sum + (nativeFrameWords "java/lang/System" "arraycopy" 5 + 11) ≤ x := by
  rw [mi_sum_st]
  have e : nativeFrameWords "java/lang/System" "arraycopy" 5 = 7 := by decide +kernel
  rw [e]
  omega
theorem mi_q_copy {i : Nat} (cx : mi_Cx N base ra cT D own cc nL p s m args c) (hd : decode cc pc = .ok (.invokestatic i, len)) (hlen : mi_len (.invokestatic i) len = true) (hok : mi_ok own ini (.invokestatic i) ax) (hk11 : ax.2.2.1 = 11) (hR : 1 ≤ R.frames ∧ 60 ≤ R.locals) (hh : mi_hCopy pc st cn h = some (pc1, st1, cn1, h1)) (kk : mi_Wq base ra cT D nL p l e R s m args below meth c Q pc1 ls st1 cn1 h1) : mi_Wq base ra cT D nL p l e R s m args below meth c Q pc ls st cn h := by
  cases (beq_iff_eq.mp hlen)
  obtain ⟨hx, hb, hml, hown, hts, hKn, hX, hbs⟩ := cx
  intro H locs ar hsz hP hKA hS har
  obtain ⟨⟨w, hw⟩, -⟩ := hok i rfl
  rw [hk11] at hw
  unfold mi_hCopy at hh
  split at hh
  next n dp a sp a0 r =>
    split at hh
    next hlo =>
      obtain ⟨hlo, hs0⟩ := Bool.and_eq_true_iff.mp hlo
      obtain ⟨hlo, hsum⟩ := Bool.and_eq_true_iff.mp hlo
      obtain ⟨hla, hla0⟩ := Bool.and_eq_true_iff.mp hlo
      have hsum := Nat.le_of_ble_eq_true hsum
      have hs0 : (decide (sp < 0) || decide (dp < 0) || decide (n < 0)) = false := by simpa using hs0
      obtain ⟨hs0, hs3⟩ := Bool.or_eq_false_iff.mp hs0
      obtain ⟨hs1, hs2⟩ := Bool.or_eq_false_iff.mp hs0
      have hs1 := of_decide_eq_false hs1
      have hs2 := of_decide_eq_false hs2
      have hs3 := of_decide_eq_false hs3
      have e0 : mi_st (mi_ad base ra) (.int n :: .int dp :: .ref a :: .int sp :: .ref a0 :: r) = .int n :: .int dp :: .ref (base + a) :: .int sp :: .ref (base + a0) :: mi_st (mi_ad base ra) r := by
        rw [← mi_ref_lo hla0]
        show Value.int n :: Value.int dp :: Value.ref (mi_ad base ra a) :: _ = _
        rw [mi_ad_lo hla]
        rfl
      rw [e0]
      split at hh
      next l0 g0 e1 e2 =>
        split at hh
        next hl2 =>
          cases hh
          obtain ⟨h4, h5⟩ := Bool.and_eq_true_iff.mp hl2
          have h4 := Nat.le_of_ble_eq_true h4
          have h5 := Nat.le_of_ble_eq_true h5
          refine mi_copyi (f := fun j => l0.getD j 0) (g := fun j => g0.getD j 0) hx hb (by rw [hml]; exact har.1.symm) hown (hts _ (mi_lk11 hw)) (hts _ mi_gCn) (hts _ mi_gCs) (hts _ mi_gCi) hP (mi_D base ra cT h) hS a0 a (mi_W_get e1) (mi_W_get e2) (hKA _ _ _ e1).1 (hKA _ _ _ e2).1 rfl hs1 hs2 hs3 h4 h5 (fun _ _ => rfl) hR.1 (mi_copyroom hsum hR.2) hd (fun H1 locs1 hP1 hz1 hS1 => ?_)
          refine kk H1 locs1 ar (by rw [hz1, hsz, List.length_set]) ?_ (hKA.arr e2 _) hS1 har
          rw [← mi_W_set]
          show va_P D vwCl ((mi_W base ra cT h).set a (base + a, .inl (cT .int, (mi_cpy l0 g0 sp.toNatClampNeg dp.toNatClampNeg n.toNatClampNeg).length, .inl (fun j => (mi_cpy l0 g0 sp.toNatClampNeg dp.toNatClampNeg n.toNatClampNeg).getD j 0)))) H1
          rw [mi_cpy_get 0 h4 h5, mi_cpy_len h4 h5]
          exact hP1
        next => cases hh
      next l0 g0 e1 e2 =>
        split at hh
        next hl2 =>
          cases hh
          obtain ⟨h4, h5⟩ := Bool.and_eq_true_iff.mp hl2
          have h4 := Nat.le_of_ble_eq_true h4
          have h5 := Nat.le_of_ble_eq_true h5
          refine mi_copyl (f := fun j => l0.getD j 0) (g := fun j => g0.getD j 0) hx hb (by rw [hml]; exact har.1.symm) hown (hts _ (mi_lk11 hw)) (hts _ mi_gCn) (hts _ mi_gCs) (hts _ mi_gCi) hP (mi_D base ra cT h) hS a0 a (mi_W_get e1) (mi_W_get e2) (hKA _ _ _ e1).1 (hKA _ _ _ e2).1 rfl hs1 hs2 hs3 h4 h5 (fun _ _ => rfl) hR.1 (mi_copyroom hsum hR.2) hd (fun H1 locs1 hP1 hz1 hS1 => ?_)
          refine kk H1 locs1 ar (by rw [hz1, hsz, List.length_set]) ?_ (hKA.arr e2 _) hS1 har
          rw [← mi_W_set]
          show va_P D vwCl ((mi_W base ra cT h).set a (base + a, .inl (cT .long, (mi_cpy l0 g0 sp.toNatClampNeg dp.toNatClampNeg n.toNatClampNeg).length, .inr (.inl (fun j => (mi_cpy l0 g0 sp.toNatClampNeg dp.toNatClampNeg n.toNatClampNeg).getD j 0))))) H1
          rw [mi_cpy_get 0 h4 h5, mi_cpy_len h4 h5]
          exact hP1
        next => cases hh
      next => cases hh
    next => cases hh
  next => cases hh
theorem mi_df_st (ad : Nat → Nat) (ci : Nat) : mi_st ad (mi_df ci) = mi_df ci := by
  unfold mi_df
  split <;> rfl
theorem mi_KA_reps {cT : FieldType → ClassId} {h : mi_H} {U : State} (hk : mi_KA cT h U) (x : mi_E) (hx : ∀ ty a, x = .inr (ty, a) → ArrOfT U (cT ty) ty ∧ va_RA U (cT ty) ty) : ∀ n, mi_KA cT (h ++ List.replicate n x) U
  | 0 => by simpa using hk
  | n + 1 => by
    rw [List.replicate_succ', ← List.append_assoc]
    exact (mi_KA_reps hk x hx n).push x hx
theorem mi_q_new {i : Nat} (cx : mi_Cx N base ra cT D own cc nL p s m args c) (hd : decode cc pc = .ok (.new i, len)) (hlen : mi_len (.new i) len = true) (hok : mi_ok own ini (.new i) ax) (hlim : lim.1 ≤ R.cells ∧ lim.2 ≤ R.slots) (hh : mi_hNew ax lim pc st cn h = some (pc1, st1, cn1, h1)) (kk : mi_Wq base ra cT D nL p l e R s m args below meth c Q pc1 ls st1 cn1 h1) : mi_Wq base ra cT D nL p l e R s m args below meth c Q pc ls st cn h := by
  cases (beq_iff_eq.mp hlen)
  obtain ⟨hx, hb, hml, hown, hts, hKn, hX, hbs⟩ := cx
  intro H locs ar hsz hP hKA hS har
  obtain ⟨⟨w, hw⟩, -⟩ := hok i rfl
  unfold mi_hNew at hh
  split at hh
  next q hq =>
    split at hh
    next hc =>
      cases hh
      obtain ⟨hc, h4⟩ := Bool.and_eq_true_iff.mp hc
      obtain ⟨hc, h3⟩ := Bool.and_eq_true_iff.mp hc
      obtain ⟨h1, h2⟩ := Bool.and_eq_true_iff.mp hc
      rw [Nat.eq_of_beq_eq_true h1] at hw
      have h2 := Nat.le_of_ble_eq_true h2
      have h3 := Nat.le_of_ble_eq_true h3
      have hcl := mi_cl_ok _ _ hq
      refine mi_new (D := D) (ci := ax.1) (C := q.1) (T := q.2.1) (N := q.2.2) (fs := mi_df ax.1) hx hb hts hcl.1 (mi_ft ax.1) hcl.2.2.1 hown (hts _ (mi_lk3 hq hw)) (hts _ hcl.2.2.2.2.2.1) (hts _ hcl.2.2.2.2.2.2.1) (hKn _ _ hq) hP hS hq hcl.2.2.2.1 (by omega) (by omega) hd (fun H1 hP1 hz1 hS1 => ?_)
      have hk := kk H1 locs ar (by rw [hz1, hsz, List.length_append]; rfl) ?_ (hKA.push _ (fun ty a e => by cases e)) hS1 har
      · rw [mi_ref_lo h4, ← hsz] at hk
        exact hk
      · rw [mi_W_push, ← hsz]
        have e2 : mi_st (mi_ad base ra) (mi_df ax.1) = mi_df ax.1 := mi_df_st _ _
        show va_P D vwCl (mi_W base ra cT h ++ [(H.size, .inr (ax.1, mi_st (mi_ad base ra) (mi_df ax.1)))]) H1
        rw [e2]
        exact hP1
    next => cases hh
  next => cases hh
theorem mi_q_newarray {t : ArrayType} (cx : mi_Cx N base ra cT D own cc nL p s m args c) (hd : decode cc pc = .ok (.newarray t, len)) (hlen : mi_len (.newarray t) len = true) (hok : mi_ok own ini (.newarray t) ax) (hlim : lim.1 ≤ R.cells ∧ lim.2 ≤ R.slots) (hh : mi_hNewa t lim pc st cn h = some (pc1, st1, cn1, h1)) (kk : mi_Wq base ra cT D nL p l e R s m args below meth c Q pc1 ls st1 cn1 h1) : mi_Wq base ra cT D nL p l e R s m args below meth c Q pc ls st cn h := by
  cases (beq_iff_eq.mp hlen)
  obtain ⟨hx, hb, hml, hown, hts, hKn, hX, hbs⟩ := cx
  intro H locs ar hsz hP hKA hS har
  unfold mi_hNewa at hh
  split at hh
  next n r =>
    split at hh
    next hc =>
      obtain ⟨hc, h5⟩ := Bool.and_eq_true_iff.mp hc
      obtain ⟨hc, h4⟩ := Bool.and_eq_true_iff.mp hc
      obtain ⟨hc, h3⟩ := Bool.and_eq_true_iff.mp hc
      obtain ⟨h1, h2⟩ := Bool.and_eq_true_iff.mp hc
      have h1 : ¬ n < 0 := by simpa using h1
      have h2 := Nat.le_of_ble_eq_true h2
      have h3 := Nat.le_of_ble_eq_true h3
      have h4 := Nat.le_of_ble_eq_true h4
      split at hh
      next =>
        cases hh
        refine mi_newa (atype := .int) (a0 := (n.toNatClampNeg, .inl (fun _ => 0))) (ty := .int) hx hb (hts _ mi_gAI) rfl hP hS (fun cA => rfl) h1 rfl (by show _ * 4 ≤ _; omega) (by omega) (by omega) hd (fun cA H1 hAr hNm hP1 hz1 hS1 => ?_)
        have hcA : cT .int = cA := hX.2.2.2.2.2.2.2 .int cA hNm
        have hk := kk H1 locs ar (by rw [hz1, hsz, List.length_append]; rfl) ?_ (hKA.push _ (fun ty a e => by cases e; rw [hcA]; exact ⟨hAr, hNm⟩)) hS1 har
        · rw [mi_ref_lo h5, ← hsz] at hk
          exact hk
        · rw [mi_W_push, ← hsz]
          show va_P D vwCl (mi_W base ra cT h ++ [(H.size, .inl (cT .int, (List.replicate n.toNatClampNeg (0 : Int32)).length, .inl (fun j => (List.replicate n.toNatClampNeg (0 : Int32)).getD j 0)))]) H1
          rw [mi_rep, List.length_replicate, hcA]
          exact hP1
      next =>
        cases hh
        refine mi_newa (atype := .long) (a0 := (n.toNatClampNeg, .inr (.inl (fun _ => 0)))) (ty := .long) hx hb (hts _ mi_gAL) rfl hP hS (fun cA => rfl) h1 rfl (by show _ * 8 ≤ _; omega) (by omega) (by omega) hd (fun cA H1 hAr hNm hP1 hz1 hS1 => ?_)
        have hcA : cT .long = cA := hX.2.2.2.2.2.2.2 .long cA hNm
        have hk := kk H1 locs ar (by rw [hz1, hsz, List.length_append]; rfl) ?_ (hKA.push _ (fun ty a e => by cases e; rw [hcA]; exact ⟨hAr, hNm⟩)) hS1 har
        · rw [mi_ref_lo h5, ← hsz] at hk
          exact hk
        · rw [mi_W_push, ← hsz]
          show va_P D vwCl (mi_W base ra cT h ++ [(H.size, .inl (cT .long, (List.replicate n.toNatClampNeg (0 : Int64)).length, .inr (.inl (fun j => (List.replicate n.toNatClampNeg (0 : Int64)).getD j 0))))]) H1
          rw [mi_rep, List.length_replicate, hcA]
          exact hP1
      next => cases hh
    next => cases hh
  next => cases hh
theorem mi_q_anewarray {i : Nat} (cx : mi_Cx N base ra cT D own cc nL p s m args c) (hd : decode cc pc = .ok (.anewarray i, len)) (hlen : mi_len (.anewarray i) len = true) (hok : mi_ok own ini (.anewarray i) ax) (hlim : lim.1 ≤ R.cells ∧ lim.2 ≤ R.slots) (hh : mi_hNewq ax lim pc st cn h = some (pc1, st1, cn1, h1)) (kk : mi_Wq base ra cT D nL p l e R s m args below meth c Q pc1 ls st1 cn1 h1) : mi_Wq base ra cT D nL p l e R s m args below meth c Q pc ls st cn h := by
  cases (beq_iff_eq.mp hlen)
  obtain ⟨hx, hb, hml, hown, hts, hKn, hX, hbs⟩ := cx
  intro H locs ar hsz hP hKA hS har
  obtain ⟨⟨w, hw⟩, -⟩ := hok i rfl
  unfold mi_hNewq at hh
  split at hh
  next n r =>
    split at hh
    next hc =>
      cases hh
      obtain ⟨hc, h5⟩ := Bool.and_eq_true_iff.mp hc
      obtain ⟨hc, h4⟩ := Bool.and_eq_true_iff.mp hc
      obtain ⟨hc, h3⟩ := Bool.and_eq_true_iff.mp hc
      obtain ⟨hc, h2⟩ := Bool.and_eq_true_iff.mp hc
      obtain ⟨hc, h1⟩ := Bool.and_eq_true_iff.mp hc
      obtain ⟨h7, h6⟩ := Bool.and_eq_true_iff.mp hc
      have h1 : ¬ n < 0 := by simpa using h1
      have h2 := Nat.le_of_ble_eq_true h2
      have h3 := Nat.le_of_ble_eq_true h3
      have h4 := Nat.le_of_ble_eq_true h4
      rw [Nat.eq_of_beq_eq_true h7, Nat.eq_of_beq_eq_true h6] at hw
      have hcl : Cond.classLink (mi_cname own) i "ThirdAfter$Shelf" ∈ mi_good := mi_lk3 (z := (RX5, TX5, 5)) rfl hw
      refine mi_newq hx hb hown (hts _ hcl) hX.2.2.2.2.2.1 hP hS h1 rfl (by omega) (by omega) (by omega) hd (fun cA H1 hAr hRA hNm hP1 hz1 hS1 => ?_)
      have hcA : cT (.object "ThirdAfter$Shelf") = cA := hX.2.2.2.2.2.2.2 (.object "ThirdAfter$Shelf") cA hNm
      have hk := kk H1 locs ar (by rw [hz1, hsz, List.length_append]; rfl) ?_ (hKA.push _ (fun ty a e => by cases e; rw [hcA]; exact ⟨hAr, hRA⟩)) hS1 har
      · rw [mi_ref_lo h5, ← hsz] at hk
        exact hk
      · rw [mi_W_push, ← hsz]
        show va_P D vwCl (mi_W base ra cT h ++ [(H.size, .inl (cT (.object "ThirdAfter$Shelf"), (List.replicate n.toNatClampNeg (none : Option Nat)).length, .inr (.inr (.inr (.inr (fun j => ((List.replicate n.toNatClampNeg (none : Option Nat)).getD j none).map (mi_ad base ra)))))))]) H1
        have e2 := mi_rep n.toNatClampNeg (none : Option Nat)
        have e3 : (fun j => ((List.replicate n.toNatClampNeg (none : Option Nat)).getD j none).map (mi_ad base ra)) = fun _ => none := by
          funext j
          have e4 : (List.replicate n.toNatClampNeg (none : Option Nat)).getD j none = none := congrFun e2 j
          rw [e4]
          rfl
        rw [e3, List.length_replicate, hcA]
        exact hP1
    next => cases hh
  next => cases hh
theorem mi_q_mna {i d : Nat} (cx : mi_Cx N base ra cT D own cc nL p s m args c) (hd : decode cc pc = .ok (.multianewarray i d, len)) (hlen : mi_len (.multianewarray i d) len = true) (hok : mi_ok own ini (.multianewarray i d) ax) (hlim : lim.1 ≤ R.cells ∧ lim.2 ≤ R.slots) (hh : mi_hMna ax d lim pc st cn h = some (pc1, st1, cn1, h1)) (kk : mi_Wq base ra cT D nL p l e R s m args below meth c Q pc1 ls st1 cn1 h1) : mi_Wq base ra cT D nL p l e R s m args below meth c Q pc ls st cn h := by
  cases (beq_iff_eq.mp hlen)
  obtain ⟨hx, hb, hml, hown, hts, hKn, hX, hbs⟩ := cx
  intro H locs ar hsz hP hKA hS har
  obtain ⟨⟨w, hw⟩, -⟩ := hok i rfl
  unfold mi_hMna at hh
  split at hh
  next k n r =>
    split at hh
    next hc =>
      cases hh
      obtain ⟨hc, h9⟩ := Bool.and_eq_true_iff.mp hc
      obtain ⟨hc, h8⟩ := Bool.and_eq_true_iff.mp hc
      obtain ⟨hc, h7⟩ := Bool.and_eq_true_iff.mp hc
      obtain ⟨hc, h6⟩ := Bool.and_eq_true_iff.mp hc
      obtain ⟨hc, h5⟩ := Bool.and_eq_true_iff.mp hc
      obtain ⟨hc, h4⟩ := Bool.and_eq_true_iff.mp hc
      obtain ⟨hc, h3⟩ := Bool.and_eq_true_iff.mp hc
      obtain ⟨h1, h2⟩ := Bool.and_eq_true_iff.mp hc
      rw [Nat.eq_of_beq_eq_true h1] at hw
      have h2 := Nat.eq_of_beq_eq_true h2
      subst h2
      have h3 : ¬ n < 0 := by simpa using h3
      have h4 : ¬ k < 0 := by simpa using h4
      have h5 := Nat.le_of_ble_eq_true h5
      have h6 := Nat.le_of_ble_eq_true h6
      have h7 := Nat.le_of_ble_eq_true h7
      have h8 := Nat.le_of_ble_eq_true h8
      have h9 := Nat.le_of_ble_eq_true h9
      refine mi_mna hx hb hown (hts _ (mi_lk5 hw)) hX.2.2.2.2.2.2.1 (hts _ mi_gAI) hP hS h3 h4 rfl rfl (by omega) (by omega) (by omega) (by omega) hd (fun cA cy H1 hAr hNm hAr2 hNm2 hP1 hz1 hS1 => ?_)
      have hcA : cT (.array .int) = cA := hX.2.2.2.2.2.2.2 (.array .int) cA hNm
      have hcy : cT .int = cy := hX.2.2.2.2.2.2.2 .int cy hNm2
      have hbl : ∀ x, x < mi_RO → Nat.blt x mi_RO = true := fun x hx => Nat.ble_eq_true_of_le hx
      have hKA1 := hKA.push (.inr (.array .int, .inr (.inr ((List.range n.toNatClampNeg).map (fun i => some (h.length + 1 + i)))))) (fun ty a e => by cases e; rw [hcA]; exact ⟨hAr, hNm⟩)
      have hKA2 := mi_KA_reps hKA1 (.inr (.int, .inl (List.replicate k.toNatClampNeg 0))) (fun ty a e => by cases e; rw [hcy]; exact ⟨hAr2, hNm2⟩) n.toNatClampNeg
      have hk := kk H1 locs ar (by rw [hz1, hsz, List.length_append, List.length_append, List.length_replicate]; show _ = base + (h.length + 1 + n.toNatClampNeg); omega) ?_ hKA2 hS1 har
      · rw [mi_ref_lo (hbl _ (by omega)), ← hsz] at hk
        exact hk
      · rw [mi_W_app, mi_W_push, ← hsz]
        have e1 : mi_rE (mi_ad base ra) cT (.inr (.array .int, .inr (.inr ((List.range n.toNatClampNeg).map (fun i => some (h.length + 1 + i)))))) = .inl (cA, n.toNatClampNeg, .inr (.inr (.inr (.inr (fun i => if i < n.toNatClampNeg then some (H.size + 1 + i) else none))))) := by
          show Sum.inl (cT (.array .int), ((List.range n.toNatClampNeg).map (fun i => some (h.length + 1 + i))).length, Sum.inr (Sum.inr (Sum.inr (Sum.inr (fun j => (((List.range n.toNatClampNeg).map (fun i => some (h.length + 1 + i))).getD j none).map (mi_ad base ra)))))) = _
          rw [List.length_map, List.length_range, hcA]
          congr 7
          funext j
          rw [List.getD_eq_getElem?_getD, List.getElem?_map]
          by_cases hj : j < n.toNatClampNeg
          · rw [List.getElem?_range hj, if_pos hj]
            show some (mi_ad base ra (h.length + 1 + j)) = _
            rw [mi_ad_lo (hbl _ (by omega)), hsz]
            congr 1
            omega
          · rw [if_neg hj, List.getElem?_eq_none (by rw [List.length_range]; omega)]
            rfl
        have e2 : (List.replicate n.toNatClampNeg (Sum.inr (FieldType.int, Sum.inl (List.replicate k.toNatClampNeg 0)) : mi_E)).mapIdx (fun j x => (base + ((h ++ [(Sum.inr (FieldType.array .int, Sum.inr (Sum.inr ((List.range n.toNatClampNeg).map (fun i => some (h.length + 1 + i))))) : mi_E)]).length + j), mi_rE (mi_ad base ra) cT x)) = (List.range n.toNatClampNeg).map (fun i => (H.size + 1 + i, .inl (cy, k.toNatClampNeg, .inl (fun _ => 0)))) := by
          apply List.ext_getElem?
          intro j
          rw [List.getElem?_mapIdx, List.getElem?_map, List.getElem?_replicate, List.length_append]
          by_cases hj : j < n.toNatClampNeg
          · rw [if_pos hj, List.getElem?_range hj]
            show some (base + (h.length + 1 + j), Sum.inl (cT .int, (List.replicate k.toNatClampNeg (0 : Int32)).length, Sum.inl (fun i => (List.replicate k.toNatClampNeg (0 : Int32)).getD i 0))) = some (H.size + 1 + j, _)
            rw [mi_rep, List.length_replicate, hcy, hsz]
            congr 2
            omega
          · rw [if_neg hj, List.getElem?_eq_none (by rw [List.length_range]; omega)]
            rfl
        rw [e1, e2]
        exact hP1
    next => cases hh
  next => cases hh
theorem mi_q_obj {i : Nat} (cx : mi_Cx N base ra cT D own cc nL p s m args c) (hd : decode cc pc = .ok (.invokespecial i, len)) (hlen : mi_len (.invokespecial i) len = true) (hok : mi_ok own ini (.invokespecial i) ax) (hR : 1 ≤ R.frames ∧ 60 ≤ R.locals) (hh : mi_hObj ax pc st cn h = some (pc1, st1, cn1, h1)) (kk : mi_Wq base ra cT D nL p l e R s m args below meth c Q pc1 ls st1 cn1 h1) : mi_Wq base ra cT D nL p l e R s m args below meth c Q pc ls st cn h := by
  cases (beq_iff_eq.mp hlen)
  obtain ⟨hx, hb, hml, hown, hts, hKn, hX, hbs⟩ := cx
  intro H locs ar hsz hP hKA hS har
  obtain ⟨⟨w, hw⟩, -⟩ := hok i rfl
  unfold mi_hObj at hh
  split at hh
  next a r =>
    split at hh
    next hc =>
      cases hh
      obtain ⟨h1, h2⟩ := Bool.and_eq_true_iff.mp hc
      rw [Nat.eq_of_beq_eq_true h1] at hw
      have h2 := Nat.le_of_ble_eq_true h2
      refine W.objInit hx hb hown (hts _ (mi_lk12 hw)) (hts _ mi_gOi) (hts _ mi_gOc) rfl (by rw [hml]; exact har.1) rfl hd hR.1 ?_ (kk H locs ar hsz hP hKA hS har)
      show 2 * 0 + ((mi_st (mi_ad base ra) st1).map fun v => v.category).sum + 12 ≤ R.locals
      rw [mi_sum_st]
      have := hR.2
      omega
    next => cases hh
  next => cases hh
theorem mi_q_mm {i : Nat} (cx : mi_Cx N base ra cT D own cc nL p s m args c) (hd : decode cc pc = .ok (.invokestatic i, len)) (hlen : mi_len (.invokestatic i) len = true) (hok : mi_ok own ini (.invokestatic i) ax) (hR : 1 ≤ R.frames ∧ 60 ≤ R.locals) (hcs : cn.1 ≤ R.cells ∧ cn.2 ≤ R.slots) (hh : mi_hMm ax pc st cn h = some (pc1, st1, cn1, h1)) (kk : mi_Wq base ra cT D nL p l e R s m args below meth c Q pc1 ls st1 cn1 h1) : mi_Wq base ra cT D nL p l e R s m args below meth c Q pc ls st cn h := by
  cases (beq_iff_eq.mp hlen)
  obtain ⟨hx, hb, hml, hown, hts, hKn, hX, hbs⟩ := cx
  intro H locs ar hsz hP hKA hS har
  obtain ⟨⟨w, hw⟩, -⟩ := hok i rfl
  unfold mi_hMm at hh
  split at hh
  next y x r =>
    split at hh
    next hc =>
      have hc := Nat.le_of_ble_eq_true hc
      have hrm : ((mi_st (mi_ad base ra) r).map fun v => v.category).sum + 13 ≤ R.locals := by
        rw [mi_sum_st]
        have := hR.2
        omega
      split at hh
      next e0 =>
        cases hh
        rw [e0] at hw
        have hk := kk H locs ar hsz hP hKA hS har
        rw [mi_bif] at hk
        exact va_mmax hx hb (by rw [hml]; exact har.1.symm) hown (hts _ (mi_lk14 hw)) (hts _ mi_gMXs) (hts _ mi_gMi) (hts _ mi_gMXc) hR.1 hrm hcs.1 hcs.2 hd hk
      next e0 =>
        cases hh
        rw [e0] at hw
        have hk := kk H locs ar hsz hP hKA hS har
        rw [mi_bif] at hk
        exact va_mmin hx hb (by rw [hml]; exact har.1.symm) hown (hts _ (mi_lk15 hw)) (hts _ mi_gMNs) (hts _ mi_gMi) (hts _ mi_gMNc) hR.1 hrm hcs.1 hcs.2 hd hk
      next => cases hh
    next => cases hh
  next => cases hh
end MIN
end
section
/-! WINDOWS: what a reader reads in a window of the code, it reads in the code (the window begins at a multiple of four) -/
noncomputable def wn_win (a n : Nat) (b : ByteArray) : ByteArray := ⟨⟨(b.data.toList.drop a).take n⟩⟩
theorem wn_size (a n : Nat) (b : ByteArray) : (wn_win a n b).size = min n (b.size - a) := by
  show ((b.data.toList.drop a).take n).length = min n (b.data.toList.length - a)
  rw [List.length_take, List.length_drop]
theorem wn_get {a n : Nat} {b : ByteArray} {p : Nat} (h : p < (wn_win a n b).size) (h' : a + p < b.size) : (wn_win a n b)[p] = b[a + p] := by
  have h1 : p < ((b.data.toList.drop a).take n).length := h
  have h2 : a + p < b.data.toList.length := h'
  show ((b.data.toList.drop a).take n)[p] = b.data.toList[a + p]
  rw [List.getElem_take, List.getElem_drop]
noncomputable def wn_T {α : Type} (a : Nat) (W B : ByteArray) (r s : Decoder α) : Prop := ∀ (j : Nat) (x : α) (k : Nat), Reader.runAt r W j = .ok (x, k) → Reader.runAt s B (a + j) = .ok (x, a + k)
theorem wn_bindE {α β : Type} (r : Decoder α) (f : α → Decoder β) (W : ByteArray) (j : Nat) : Reader.runAt (r >>= f) W j = (match Reader.runAt r W j with
    | .ok p => Reader.runAt (f p.1) W p.2
    | .error e => .error e) := by
  show Except.bind (Reader.runAt r W j) (fun p => Reader.runAt (f p.1) W p.2) = _
  cases Reader.runAt r W j <;> rfl
theorem wn_mapE {α β : Type} (f : α → β) (r : Decoder α) (W : ByteArray) (j : Nat) : Reader.runAt (f <$> r) W j = (match Reader.runAt r W j with
    | .ok p => .ok (f p.1, p.2)
    | .error e => .error e) := by
  show Except.bind (Reader.runAt r W j) (fun p => Except.ok (f p.1, p.2)) = _
  cases Reader.runAt r W j <;> rfl
theorem wn_u1E (W : ByteArray) (j : Nat) : Reader.runAt (Reader.u1 : Decoder Nat) W j = if h : j < W.size then .ok ((W[j]'h).toNat, j + 1) else .error (.truncated j) := by
  show Reader.runAt (if h : j < W.size then (do set (j + 1); pure (W[j]'h).toNat) else throw (.truncated j) : Decoder Nat) W j = _
  split <;> rfl
theorem wn_byE (n : Nat) (W : ByteArray) (j : Nat) : (∃ x, Reader.runAt (Reader.bytes n : Decoder ByteArray) W j = .ok (x, j + n) ∧ j + n ≤ W.size) ∨ ((∃ e, Reader.runAt (Reader.bytes n : Decoder ByteArray) W j = .error e) ∧ ¬ (j + n ≤ W.size)) := by
  have e : Reader.runAt (Reader.bytes n : Decoder ByteArray) W j = Reader.runAt (if j + n ≤ W.size then (do set (j + n); pure (W.extract j (j + n))) else throw (.truncated W.size) : Decoder ByteArray) W j := rfl
  rw [e]
  split
  next h => exact Or.inl ⟨_, rfl, h⟩
  next h => exact Or.inr ⟨⟨_, rfl⟩, h⟩
section WN
variable {α β : Type} {a n : Nat} {W B : ByteArray}
theorem wn_pure (x : α) : wn_T a W B (pure x) (pure x) := fun j y k h => by
  have h : (Except.ok (x, j) : Except DecodeError (α × Nat)) = .ok (y, k) := h
  cases h
  rfl
theorem wn_throw (e : DecodeError) (s : Decoder α) : wn_T a W B (throw e) s := fun j y k h => by
  have h : (Except.error e : Except DecodeError (α × Nat)) = .ok (y, k) := h
  cases h
theorem wn_bind {r s : Decoder α} {f g : α → Decoder β} (h : wn_T a W B r s) (hf : ∀ x, wn_T a W B (f x) (g x)) : wn_T a W B (r >>= f) (s >>= g) := fun j y k e => by
  rw [wn_bindE] at e ⊢
  cases er : Reader.runAt r W j with
  | error z => rw [er] at e; cases e
  | ok p =>
    obtain ⟨x, j1⟩ := p
    rw [er] at e
    rw [h j x j1 er]
    exact hf x j1 y k e
theorem wn_map (f : α → β) {r s : Decoder α} (h : wn_T a W B r s) : wn_T a W B (f <$> r) (f <$> s) := fun j y k e => by
  rw [wn_mapE] at e ⊢
  cases er : Reader.runAt r W j with
  | error z => rw [er] at e; cases e
  | ok p =>
    obtain ⟨x, j1⟩ := p
    rw [er] at e
    rw [h j x j1 er]
    cases e
    rfl
theorem wn_u1 : wn_T a (wn_win a n B) B Reader.u1 Reader.u1 := fun j y k e => by
  rw [wn_u1E] at e ⊢
  split at e
  next h =>
    have hs : j < min n (B.size - a) := wn_size a n B ▸ h
    have h' : a + j < B.size := by omega
    rw [dif_pos h', ← wn_get h h']
    cases e
    rfl
  next => cases e
theorem wn_u2 : wn_T a (wn_win a n B) B Reader.u2 Reader.u2 := wn_bind wn_u1 (fun _ => wn_bind wn_u1 (fun _ => wn_pure _))
theorem wn_u4 : wn_T a (wn_win a n B) B Reader.u4 Reader.u4 := wn_bind wn_u2 (fun _ => wn_bind wn_u2 (fun _ => wn_pure _))
theorem wn_s1 : wn_T a (wn_win a n B) B Reader.s1 Reader.s1 := wn_map _ wn_u1
theorem wn_s2 : wn_T a (wn_win a n B) B Reader.s2 Reader.s2 := wn_map _ wn_u2
theorem wn_s4 : wn_T a (wn_win a n B) B Reader.s4 Reader.s4 := wn_map _ wn_u4
theorem wn_pad (h4 : a % 4 = 0) (ha : a ≤ B.size) : wn_T a (wn_win a n B) B Decoder.padding Decoder.padding := fun j y k e => by
  have hE : ∀ (V : ByteArray) (i : Nat), Reader.runAt Decoder.padding V i = (match Reader.runAt (Reader.bytes ((4 - i % 4) % 4) : Decoder ByteArray) V i with
      | .ok p => .ok ((), p.2)
      | .error e => .error e) := fun V i => by
    show Except.bind (Reader.runAt (Reader.bytes ((4 - i % 4) % 4) : Decoder ByteArray) V i) (fun p => Except.ok ((), p.2)) = _
    cases Reader.runAt (Reader.bytes ((4 - i % 4) % 4) : Decoder ByteArray) V i <;> rfl
  rw [hE] at e ⊢
  rw [show (a + j) % 4 = j % 4 by omega]
  rcases wn_byE ((4 - j % 4) % 4) (wn_win a n B) j with ⟨x, h1, h2⟩ | ⟨⟨z, h1⟩, _⟩
  · rw [h1] at e
    rw [wn_size] at h2
    rcases wn_byE ((4 - j % 4) % 4) B (a + j) with ⟨x', g1, g2⟩ | ⟨_, g2⟩
    · rw [g1]
      cases e
      rw [Nat.add_assoc]
    · omega
  · rw [h1] at e
    cases e
theorem wn_go {r s : Decoder α} (h : wn_T a W B r s) : ∀ (k : Nat) (acc : Array α), wn_T a W B (Reader.times.go r k acc) (Reader.times.go s k acc)
  | 0, acc => wn_pure acc
  | k + 1, acc => wn_bind h (fun x => wn_go h k (acc.push x))
theorem wn_ts (h4 : a % 4 = 0) (ha : a ≤ B.size) (pc pc1 : Nat) : wn_T a (wn_win a n B) B (Decoder.tableswitch pc) (Decoder.tableswitch pc1) := by
  unfold Decoder.tableswitch
  refine wn_bind (wn_pad h4 ha) fun _ => wn_bind wn_s4 fun d => wn_bind wn_s4 fun lo => wn_bind wn_s4 fun hi => ?_
  dsimp only
  split
  · exact wn_bind (wn_go wn_s4 _ _) fun _ => wn_pure _
  · exact wn_bind (wn_throw _ _) fun _ => wn_bind (wn_go wn_s4 _ _) fun _ => wn_pure _
theorem wn_ls (h4 : a % 4 = 0) (ha : a ≤ B.size) (pc pc1 : Nat) : wn_T a (wn_win a n B) B (Decoder.lookupswitch pc) (Decoder.lookupswitch pc1) := by
  unfold Decoder.lookupswitch
  refine wn_bind (wn_pad h4 ha) fun _ => wn_bind wn_s4 fun d => wn_bind wn_s4 fun m => ?_
  dsimp only
  have ht : wn_T a (wn_win a n B) B (Reader.times m.toNat (do pure ((← Reader.s4), (← Reader.s4)))) (Reader.times m.toNat (do pure ((← Reader.s4), (← Reader.s4)))) := wn_go (wn_bind wn_s4 fun _ => wn_bind wn_s4 fun _ => wn_pure _) _ _
  split
  · refine wn_bind ht fun ps => ?_
    split
    · exact wn_pure _
    · exact wn_bind (wn_throw _ _) fun _ => wn_pure _
  · refine wn_bind (wn_throw _ _) fun _ => wn_bind ht fun ps => ?_
    split
    · exact wn_pure _
    · exact wn_bind (wn_throw _ _) fun _ => wn_pure _
end WN
section WNI
variable {a n : Nat} {B : ByteArray}
theorem wn_na (pc pc1 : Nat) : wn_T a (wn_win a n B) B (Decoder.newarray pc) (Decoder.newarray pc1) := by
  unfold Decoder.newarray
  refine wn_bind wn_u1 fun x => ?_
  split
  all_goals first | exact wn_pure _ | exact wn_throw _ _
theorem wn_ma (pc pc1 : Nat) : wn_T a (wn_win a n B) B (Decoder.multianewarray pc) (Decoder.multianewarray pc1) := by
  unfold Decoder.multianewarray
  refine wn_bind wn_u2 fun x => wn_bind wn_u1 fun y => ?_
  dsimp only
  split
  · exact wn_bind (wn_pure _) fun _ => wn_pure _
  · exact wn_bind (wn_throw _ _) fun _ => wn_pure _
end WNI
noncomputable def wn_ops : List Nat := [42, 180, 27, 28, 43, 26, 29, 182, 184, 3, 4, 16, 46, 172, 181, 161, 162, 159, 160, 163, 164, 153, 154, 155, 156, 157, 158, 96, 100, 2, 5, 6, 7, 8, 132, 167, 89, 79, 21, 25, 44, 45, 54, 59, 60, 61, 62, 75, 76, 77, 78, 178, 183, 187, 190, 50, 51, 177, 176, 87, 88, 92, 90, 104, 108, 112, 116, 120, 122, 124, 126, 128, 130, 17, 18, 19, 20, 22, 30, 31, 32, 33, 47, 80, 83, 55, 63, 64, 65, 66, 9, 10, 97, 105, 127, 129, 121, 133, 136, 145, 146, 147, 148, 170, 171, 173, 188, 189, 197, 58]
set_option maxRecDepth 100000 in
theorem wn_instr : ∃ F : Nat → Nat → Decoder Instr, (∀ pc, Decoder.instr pc = Reader.u1 >>= F pc) ∧ ∀ (a n : Nat) (B : ByteArray), a % 4 = 0 → a ≤ B.size → ∀ (pc pc1 : Nat), ∀ x ∈ wn_ops, wn_T a (wn_win a n B) B (F pc x) (F pc1 x) := by
  refine ⟨_, fun pc => rfl, fun a n B h4 ha pc pc1 => ?_⟩
  exact List.forall_mem_cons.mpr ⟨wn_pure _, List.forall_mem_cons.mpr ⟨wn_bind wn_u2 fun _ => wn_pure _, List.forall_mem_cons.mpr ⟨wn_pure _, List.forall_mem_cons.mpr ⟨wn_pure _, List.forall_mem_cons.mpr ⟨wn_pure _, List.forall_mem_cons.mpr ⟨wn_pure _, List.forall_mem_cons.mpr ⟨wn_pure _, List.forall_mem_cons.mpr ⟨wn_bind wn_u2 fun _ => wn_pure _, List.forall_mem_cons.mpr ⟨wn_bind wn_u2 fun _ => wn_pure _, List.forall_mem_cons.mpr ⟨wn_pure _, List.forall_mem_cons.mpr ⟨wn_pure _, List.forall_mem_cons.mpr ⟨wn_bind wn_s1 fun _ => wn_pure _, List.forall_mem_cons.mpr ⟨wn_pure _, List.forall_mem_cons.mpr ⟨wn_pure _, List.forall_mem_cons.mpr ⟨wn_bind wn_u2 fun _ => wn_pure _, List.forall_mem_cons.mpr ⟨wn_bind wn_s2 fun _ => wn_pure _, List.forall_mem_cons.mpr ⟨wn_bind wn_s2 fun _ => wn_pure _, List.forall_mem_cons.mpr ⟨wn_bind wn_s2 fun _ => wn_pure _, List.forall_mem_cons.mpr ⟨wn_bind wn_s2 fun _ => wn_pure _, List.forall_mem_cons.mpr ⟨wn_bind wn_s2 fun _ => wn_pure _, List.forall_mem_cons.mpr ⟨wn_bind wn_s2 fun _ => wn_pure _, List.forall_mem_cons.mpr ⟨wn_bind wn_s2 fun _ => wn_pure _, List.forall_mem_cons.mpr ⟨wn_bind wn_s2 fun _ => wn_pure _, List.forall_mem_cons.mpr ⟨wn_bind wn_s2 fun _ => wn_pure _, List.forall_mem_cons.mpr ⟨wn_bind wn_s2 fun _ => wn_pure _, List.forall_mem_cons.mpr ⟨wn_bind wn_s2 fun _ => wn_pure _, List.forall_mem_cons.mpr ⟨wn_bind wn_s2 fun _ => wn_pure _, List.forall_mem_cons.mpr ⟨wn_pure _, List.forall_mem_cons.mpr ⟨wn_pure _, List.forall_mem_cons.mpr ⟨wn_pure _, List.forall_mem_cons.mpr ⟨wn_pure _, List.forall_mem_cons.mpr ⟨wn_pure _, List.forall_mem_cons.mpr ⟨wn_pure _, List.forall_mem_cons.mpr ⟨wn_pure _, List.forall_mem_cons.mpr ⟨wn_bind wn_u1 fun _ => wn_bind wn_s1 fun _ => wn_pure _, List.forall_mem_cons.mpr ⟨wn_bind wn_s2 fun _ => wn_pure _, List.forall_mem_cons.mpr ⟨wn_pure _, List.forall_mem_cons.mpr ⟨wn_pure _, List.forall_mem_cons.mpr ⟨wn_bind wn_u1 fun _ => wn_pure _, List.forall_mem_cons.mpr ⟨wn_bind wn_u1 fun _ => wn_pure _, List.forall_mem_cons.mpr ⟨wn_pure _, List.forall_mem_cons.mpr ⟨wn_pure _, List.forall_mem_cons.mpr ⟨wn_bind wn_u1 fun _ => wn_pure _, List.forall_mem_cons.mpr ⟨wn_pure _, List.forall_mem_cons.mpr ⟨wn_pure _, List.forall_mem_cons.mpr ⟨wn_pure _, List.forall_mem_cons.mpr ⟨wn_pure _, List.forall_mem_cons.mpr ⟨wn_pure _, List.forall_mem_cons.mpr ⟨wn_pure _, List.forall_mem_cons.mpr ⟨wn_pure _, List.forall_mem_cons.mpr ⟨wn_pure _, List.forall_mem_cons.mpr ⟨wn_bind wn_u2 fun _ => wn_pure _, List.forall_mem_cons.mpr ⟨wn_bind wn_u2 fun _ => wn_pure _, List.forall_mem_cons.mpr ⟨wn_bind wn_u2 fun _ => wn_pure _, List.forall_mem_cons.mpr ⟨wn_pure _, List.forall_mem_cons.mpr ⟨wn_pure _, List.forall_mem_cons.mpr ⟨wn_pure _, List.forall_mem_cons.mpr ⟨wn_pure _, List.forall_mem_cons.mpr ⟨wn_pure _, List.forall_mem_cons.mpr ⟨wn_pure _, List.forall_mem_cons.mpr ⟨wn_pure _, List.forall_mem_cons.mpr ⟨wn_pure _, List.forall_mem_cons.mpr ⟨wn_pure _, List.forall_mem_cons.mpr ⟨wn_pure _, List.forall_mem_cons.mpr ⟨wn_pure _, List.forall_mem_cons.mpr ⟨wn_pure _, List.forall_mem_cons.mpr ⟨wn_pure _, List.forall_mem_cons.mpr ⟨wn_pure _, List.forall_mem_cons.mpr ⟨wn_pure _, List.forall_mem_cons.mpr ⟨wn_pure _, List.forall_mem_cons.mpr ⟨wn_pure _, List.forall_mem_cons.mpr ⟨wn_pure _, List.forall_mem_cons.mpr ⟨wn_pure _, List.forall_mem_cons.mpr ⟨wn_bind wn_s2 fun _ => wn_pure _, List.forall_mem_cons.mpr ⟨wn_bind wn_u1 fun _ => wn_pure _, List.forall_mem_cons.mpr ⟨wn_bind wn_u2 fun _ => wn_pure _, List.forall_mem_cons.mpr ⟨wn_bind wn_u2 fun _ => wn_pure _, List.forall_mem_cons.mpr ⟨wn_bind wn_u1 fun _ => wn_pure _, List.forall_mem_cons.mpr ⟨wn_pure _, List.forall_mem_cons.mpr ⟨wn_pure _, List.forall_mem_cons.mpr ⟨wn_pure _, List.forall_mem_cons.mpr ⟨wn_pure _, List.forall_mem_cons.mpr ⟨wn_pure _, List.forall_mem_cons.mpr ⟨wn_pure _, List.forall_mem_cons.mpr ⟨wn_pure _, List.forall_mem_cons.mpr ⟨wn_bind wn_u1 fun _ => wn_pure _, List.forall_mem_cons.mpr ⟨wn_pure _, List.forall_mem_cons.mpr ⟨wn_pure _, List.forall_mem_cons.mpr ⟨wn_pure _, List.forall_mem_cons.mpr ⟨wn_pure _, List.forall_mem_cons.mpr ⟨wn_pure _, List.forall_mem_cons.mpr ⟨wn_pure _, List.forall_mem_cons.mpr ⟨wn_pure _, List.forall_mem_cons.mpr ⟨wn_pure _, List.forall_mem_cons.mpr ⟨wn_pure _, List.forall_mem_cons.mpr ⟨wn_pure _, List.forall_mem_cons.mpr ⟨wn_pure _, List.forall_mem_cons.mpr ⟨wn_pure _, List.forall_mem_cons.mpr ⟨wn_pure _, List.forall_mem_cons.mpr ⟨wn_pure _, List.forall_mem_cons.mpr ⟨wn_pure _, List.forall_mem_cons.mpr ⟨wn_pure _, List.forall_mem_cons.mpr ⟨wn_pure _, List.forall_mem_cons.mpr ⟨wn_ts h4 ha _ _, List.forall_mem_cons.mpr ⟨wn_ls h4 ha _ _, List.forall_mem_cons.mpr ⟨wn_pure _, List.forall_mem_cons.mpr ⟨wn_na _ _, List.forall_mem_cons.mpr ⟨wn_bind wn_u2 fun _ => wn_pure _, List.forall_mem_cons.mpr ⟨wn_ma _ _, List.forall_mem_cons.mpr ⟨wn_bind wn_u1 fun _ => wn_pure _, fun _ h => absurd h List.not_mem_nil⟩⟩⟩⟩⟩⟩⟩⟩⟩⟩⟩⟩⟩⟩⟩⟩⟩⟩⟩⟩⟩⟩⟩⟩⟩⟩⟩⟩⟩⟩⟩⟩⟩⟩⟩⟩⟩⟩⟩⟩⟩⟩⟩⟩⟩⟩⟩⟩⟩⟩⟩⟩⟩⟩⟩⟩⟩⟩⟩⟩⟩⟩⟩⟩⟩⟩⟩⟩⟩⟩⟩⟩⟩⟩⟩⟩⟩⟩⟩⟩⟩⟩⟩⟩⟩⟩⟩⟩⟩⟩⟩⟩⟩⟩⟩⟩⟩⟩⟩⟩⟩⟩⟩⟩⟩⟩⟩⟩⟩⟩
theorem wn_decode {a n j : Nat} {B : ByteArray} {i : Instr} {l : Nat} (h4 : a % 4 = 0) (ho : ∀ h : j < (wn_win a n B).size, (wn_win a n B)[j].toNat ∈ wn_ops) (h : decode (wn_win a n B) j = .ok (i, l)) : decode B (a + j) = .ok (i, l) := by
  obtain ⟨F, hF, hT⟩ := wn_instr
  have hd : ∀ (V : ByteArray) (k : Nat), decode V k = (match Reader.runAt (Decoder.instr k) V k with
      | .ok p => .ok (p.1, p.2 - k)
      | .error e => .error e) := fun V k => by
    show Except.bind (Reader.runAt (Decoder.instr k) V k) (fun p => Except.ok (p.1, p.2 - k)) = _
    cases Reader.runAt (Decoder.instr k) V k <;> rfl
  rw [hd, hF, wn_bindE, wn_u1E] at h
  by_cases hj : j < (wn_win a n B).size
  · rw [dif_pos hj] at h
    dsimp only at h
    have hs : j < min n (B.size - a) := wn_size a n B ▸ hj
    have h' : a + j < B.size := by omega
    rw [hd, hF, wn_bindE, wn_u1E, dif_pos h', ← wn_get hj h']
    dsimp only
    cases er : Reader.runAt (F j (wn_win a n B)[j].toNat) (wn_win a n B) (j + 1) with
    | error z => rw [er] at h; cases h
    | ok p =>
      obtain ⟨x, k⟩ := p
      rw [er] at h
      dsimp only at h
      have := hT a n B h4 (by omega) j (a + j) _ (ho hj) (j + 1) x k er
      rw [show a + j + 1 = a + (j + 1) from rfl, this]
      dsimp only
      rw [show a + k - (a + j) = k - j by omega]
      exact h
  · rw [dif_neg hj] at h
    cases h
noncomputable def wn_len (i : Instr) : Nat := match i with
  | .tableswitch _ _ _ _ => 400
  | .lookupswitch _ _ => 400
  | _ => 40
noncomputable def wn_opok (W : ByteArray) (j : Nat) : Bool := if h : j < W.size then wn_ops.elem W[j].toNat else false
noncomputable def wn_dk (b : ByteArray) (pc n : Nat) (i : Instr) (l : Nat) : Bool := decide (decode (wn_win (pc / 32 * 32) n b) (pc % 32) = .ok (i, l)) && wn_opok (wn_win (pc / 32 * 32) n b) (pc % 32)
theorem wn_dk_ok {b : ByteArray} {pc n : Nat} {i : Instr} {l : Nat} (h : wn_dk b pc n i l = true) : decode b pc = .ok (i, l) := by
  obtain ⟨h1, h2⟩ := Bool.and_eq_true_iff.mp h
  have e := wn_decode (a := pc / 32 * 32) (n := n) (j := pc % 32) (by omega) (fun hj => by
    unfold wn_opok at h2
    rw [dif_pos hj] at h2
    exact List.elem_iff.mp h2) (of_decide_eq_true h1)
  rw [show pc / 32 * 32 + pc % 32 = pc by omega] at e
  exact e
end
section
/-! INSTRUCTIONS BY THEIR BYTES, one behind the other -/
noncomputable def wn_Fx (pc : Nat) : {F : Nat → Decoder Instr // Decoder.instr pc = Reader.u1 >>= F} := ⟨_, rfl⟩
noncomputable def en_b (bs : List UInt8) (k : Nat) : Nat := (bs.getD k 0).toNat
theorem en_at {B : ByteArray} {pc k : Nat} (h : pc + k < B.size) : B[pc + k].toNat = en_b (B.data.toList.drop pc) k := by
  have h2 : pc + k < B.data.toList.length := h
  have e : (B.data.toList.drop pc).getD k 0 = B.data.toList[pc + k] := by
    rw [List.getD_eq_getElem?_getD, List.getElem?_drop, List.getElem?_eq_getElem h2]
    rfl
  unfold en_b
  rw [e]
  rfl
theorem en_run {B : ByteArray} {pc op k : Nat} {i : Instr} (h0 : pc < B.size) (hb : en_b (B.data.toList.drop pc) 0 = op) (hr : Reader.runAt ((wn_Fx pc).1 op) B (pc + 1) = .ok (i, pc + 1 + k)) : decode B pc = .ok (i, k + 1) := by
  have hd : decode B pc = (match Reader.runAt (Decoder.instr pc) B pc with
      | .ok p => .ok (p.1, p.2 - pc)
      | .error e => .error e) := by
    show Except.bind (Reader.runAt (Decoder.instr pc) B pc) (fun p => Except.ok (p.1, p.2 - pc)) = _
    cases Reader.runAt (Decoder.instr pc) B pc <;> rfl
  have e := en_at (B := B) (pc := pc) (k := 0) h0
  rw [hd, (wn_Fx pc).2, wn_bindE, wn_u1E, dif_pos h0]
  dsimp only
  rw [show B[pc].toNat = op from (show B[pc + 0].toNat = op from e.trans hb), hr]
  dsimp only
  rw [show pc + 1 + k - pc = k + 1 by omega]
section EN
variable {B : ByteArray} {pc l op x : Nat} {i : Instr} {v : Int}
theorem en_u1E {k : Nat} (h : pc + k < B.size) : Reader.runAt (Reader.u1 : Decoder Nat) B (pc + k) = .ok (en_b (B.data.toList.drop pc) k, pc + k + 1) := by
  rw [wn_u1E, dif_pos h, en_at h]
theorem en_u2E {k : Nat} (h : pc + (k + 1) < B.size) : Reader.runAt (Reader.u2 : Decoder Nat) B (pc + k) = .ok (en_b (B.data.toList.drop pc) k * 256 + en_b (B.data.toList.drop pc) (k + 1), pc + k + 2) := by
  have e : Reader.runAt (Reader.u2 : Decoder Nat) B (pc + k) = Reader.runAt ((Reader.u1 : Decoder Nat) >>= fun hi => (Reader.u1 : Decoder Nat) >>= fun lo => pure (hi * 256 + lo)) B (pc + k) := rfl
  rw [e, wn_bindE, en_u1E (by omega)]
  dsimp only
  rw [wn_bindE, show pc + k + 1 = pc + (k + 1) from rfl, en_u1E h]
  rfl
theorem en_sz {n : Nat} (hs : l ≤ (B.data.toList.drop pc).length) (hl : n < l) : pc + n < B.size := by
  rw [List.length_drop] at hs
  show pc + n < B.data.toList.length
  omega
theorem en_K1 (hs : l ≤ (B.data.toList.drop pc).length) (h : (Nat.beq (en_b (B.data.toList.drop pc) 0) op && Nat.beq l 1) = true) (hF : (wn_Fx pc).1 op = Pure.pure i) : decode B pc = .ok (i, l) := by
  obtain ⟨h1, h2⟩ := Bool.and_eq_true_iff.mp h
  have h2 := Nat.eq_of_beq_eq_true h2
  subst h2
  refine en_run (k := 0) (en_sz (n := 0) hs (by omega)) (Nat.eq_of_beq_eq_true h1) ?_
  rw [hF]
  rfl
theorem en_K2 {f : Nat → Instr} (hs : l ≤ (B.data.toList.drop pc).length) (h : (Nat.beq (en_b (B.data.toList.drop pc) 0) op && (Nat.beq x (en_b (B.data.toList.drop pc) 1) && Nat.beq l 2)) = true) (hF : (wn_Fx pc).1 op = (Reader.u1 >>= fun z => pure (f z))) : decode B pc = .ok (f x, l) := by
  obtain ⟨h1, h2⟩ := Bool.and_eq_true_iff.mp h
  obtain ⟨g2, g3⟩ := Bool.and_eq_true_iff.mp h2
  have h3 := Nat.eq_of_beq_eq_true g3
  subst h3
  refine en_run (k := 1) (en_sz (n := 0) hs (by omega)) (Nat.eq_of_beq_eq_true h1) ?_
  rw [hF, wn_bindE, en_u1E (en_sz (n := 1) hs (by omega)), Nat.eq_of_beq_eq_true g2]
  rfl
theorem en_K3 {f : Nat → Instr} (hs : l ≤ (B.data.toList.drop pc).length) (h : (Nat.beq (en_b (B.data.toList.drop pc) 0) op && (Nat.beq x (en_b (B.data.toList.drop pc) 1 * 256 + en_b (B.data.toList.drop pc) 2) && Nat.beq l 3)) = true) (hF : (wn_Fx pc).1 op = (Reader.u2 >>= fun z => pure (f z))) : decode B pc = .ok (f x, l) := by
  obtain ⟨h1, h2⟩ := Bool.and_eq_true_iff.mp h
  obtain ⟨g2, g3⟩ := Bool.and_eq_true_iff.mp h2
  have h3 := Nat.eq_of_beq_eq_true g3
  subst h3
  refine en_run (k := 2) (en_sz (n := 0) hs (by omega)) (Nat.eq_of_beq_eq_true h1) ?_
  rw [hF, wn_bindE, en_u2E (k := 1) (en_sz (n := 2) hs (by omega)), Nat.eq_of_beq_eq_true g2]
  rfl
theorem en_K4 {f : Int → Instr} (hs : l ≤ (B.data.toList.drop pc).length) (h : (Nat.beq (en_b (B.data.toList.drop pc) 0) op && (decide (v = Reader.signed 8 (en_b (B.data.toList.drop pc) 1)) && Nat.beq l 2)) = true) (hF : (wn_Fx pc).1 op = (Reader.s1 >>= fun z => pure (f z))) : decode B pc = .ok (f v, l) := by
  obtain ⟨h1, h2⟩ := Bool.and_eq_true_iff.mp h
  obtain ⟨g2, g3⟩ := Bool.and_eq_true_iff.mp h2
  have h3 := Nat.eq_of_beq_eq_true g3
  subst h3
  refine en_run (k := 1) (en_sz (n := 0) hs (by omega)) (Nat.eq_of_beq_eq_true h1) ?_
  have e : Reader.runAt (Reader.s1 : Decoder Int) B (pc + 1) = Reader.runAt (Reader.signed 8 <$> (Reader.u1 : Decoder Nat)) B (pc + 1) := rfl
  rw [hF, wn_bindE, e, wn_mapE, en_u1E (en_sz (n := 1) hs (by omega)), of_decide_eq_true g2]
  rfl
theorem en_K5 {f : Int → Instr} (hs : l ≤ (B.data.toList.drop pc).length) (h : (Nat.beq (en_b (B.data.toList.drop pc) 0) op && (decide (v = Reader.signed 16 (en_b (B.data.toList.drop pc) 1 * 256 + en_b (B.data.toList.drop pc) 2)) && Nat.beq l 3)) = true) (hF : (wn_Fx pc).1 op = (Reader.s2 >>= fun z => pure (f z))) : decode B pc = .ok (f v, l) := by
  obtain ⟨h1, h2⟩ := Bool.and_eq_true_iff.mp h
  obtain ⟨g2, g3⟩ := Bool.and_eq_true_iff.mp h2
  have h3 := Nat.eq_of_beq_eq_true g3
  subst h3
  refine en_run (k := 2) (en_sz (n := 0) hs (by omega)) (Nat.eq_of_beq_eq_true h1) ?_
  have e : Reader.runAt (Reader.s2 : Decoder Int) B (pc + 1) = Reader.runAt (Reader.signed 16 <$> (Reader.u2 : Decoder Nat)) B (pc + 1) := rfl
  rw [hF, wn_bindE, e, wn_mapE, en_u2E (k := 1) (en_sz (n := 2) hs (by omega)), of_decide_eq_true g2]
  rfl
theorem en_K6 (hs : l ≤ (B.data.toList.drop pc).length) (h : (Nat.beq (en_b (B.data.toList.drop pc) 0) op && ((Nat.beq x (en_b (B.data.toList.drop pc) 1) && decide (v = Reader.signed 8 (en_b (B.data.toList.drop pc) 2))) && Nat.beq l 3)) = true) (hF : (wn_Fx pc).1 op = (Reader.u1 >>= fun z => Reader.s1 >>= fun w => pure (.iinc z w))) : decode B pc = .ok (.iinc x v, l) := by
  obtain ⟨h1, h2⟩ := Bool.and_eq_true_iff.mp h
  obtain ⟨g2, g3⟩ := Bool.and_eq_true_iff.mp h2
  obtain ⟨k2, k4⟩ := Bool.and_eq_true_iff.mp g2
  have h3 := Nat.eq_of_beq_eq_true g3
  subst h3
  refine en_run (k := 2) (en_sz (n := 0) hs (by omega)) (Nat.eq_of_beq_eq_true h1) ?_
  have e : Reader.runAt (Reader.s1 : Decoder Int) B (pc + 1 + 1) = Reader.runAt (Reader.signed 8 <$> (Reader.u1 : Decoder Nat)) B (pc + 2) := rfl
  rw [hF, wn_bindE, en_u1E (en_sz (n := 1) hs (by omega))]
  dsimp only
  rw [wn_bindE, e, wn_mapE, en_u1E (en_sz (n := 2) hs (by omega)), of_decide_eq_true k4, Nat.eq_of_beq_eq_true k2]
  rfl
noncomputable def en_ic (n : Int) (b0 : Nat) : Bool := (Nat.beq b0 2 && decide (n = (-1))) || (Nat.beq b0 3 && decide (n = 0)) || (Nat.beq b0 4 && decide (n = 1)) || (Nat.beq b0 5 && decide (n = 2)) || (Nat.beq b0 6 && decide (n = 3)) || (Nat.beq b0 7 && decide (n = 4)) || (Nat.beq b0 8 && decide (n = 5))
theorem en_ic_ok {n : Int} (hs : l ≤ (B.data.toList.drop pc).length) (h : (en_ic n (en_b (B.data.toList.drop pc) 0) && Nat.beq l 1) = true) : decode B pc = .ok (.iconst n, l) := by
  obtain ⟨h1, h2⟩ := Bool.and_eq_true_iff.mp h
  unfold en_ic at h1
  simp only [Bool.or_eq_true, Bool.and_eq_true, decide_eq_true_eq] at h1
  rcases h1 with ((((((h1 | h1) | h1) | h1) | h1) | h1) | h1)
  · rw [h1.2]; exact en_K1 (op := 2) hs (Bool.and_eq_true_iff.mpr ⟨h1.1, h2⟩) rfl
  · rw [h1.2]; exact en_K1 (op := 3) hs (Bool.and_eq_true_iff.mpr ⟨h1.1, h2⟩) rfl
  · rw [h1.2]; exact en_K1 (op := 4) hs (Bool.and_eq_true_iff.mpr ⟨h1.1, h2⟩) rfl
  · rw [h1.2]; exact en_K1 (op := 5) hs (Bool.and_eq_true_iff.mpr ⟨h1.1, h2⟩) rfl
  · rw [h1.2]; exact en_K1 (op := 6) hs (Bool.and_eq_true_iff.mpr ⟨h1.1, h2⟩) rfl
  · rw [h1.2]; exact en_K1 (op := 7) hs (Bool.and_eq_true_iff.mpr ⟨h1.1, h2⟩) rfl
  · rw [h1.2]; exact en_K1 (op := 8) hs (Bool.and_eq_true_iff.mpr ⟨h1.1, h2⟩) rfl
end EN
noncomputable def en_c (i : Instr) (l b0 b1 b2 : Nat) : Bool := match i with
  | .aaload => Nat.beq b0 50 && Nat.beq l 1
  | .aastore => Nat.beq b0 83 && Nat.beq l 1
  | .areturn => Nat.beq b0 176 && Nat.beq l 1
  | .arraylength => Nat.beq b0 190 && Nat.beq l 1
  | .baload => Nat.beq b0 51 && Nat.beq l 1
  | .dup => Nat.beq b0 89 && Nat.beq l 1
  | .dup2 => Nat.beq b0 92 && Nat.beq l 1
  | .dup_x1 => Nat.beq b0 90 && Nat.beq l 1
  | .i2b => Nat.beq b0 145 && Nat.beq l 1
  | .i2c => Nat.beq b0 146 && Nat.beq l 1
  | .i2l => Nat.beq b0 133 && Nat.beq l 1
  | .i2s => Nat.beq b0 147 && Nat.beq l 1
  | .iadd => Nat.beq b0 96 && Nat.beq l 1
  | .iaload => Nat.beq b0 46 && Nat.beq l 1
  | .iand => Nat.beq b0 126 && Nat.beq l 1
  | .iastore => Nat.beq b0 79 && Nat.beq l 1
  | .idiv => Nat.beq b0 108 && Nat.beq l 1
  | .imul => Nat.beq b0 104 && Nat.beq l 1
  | .ineg => Nat.beq b0 116 && Nat.beq l 1
  | .ior => Nat.beq b0 128 && Nat.beq l 1
  | .irem => Nat.beq b0 112 && Nat.beq l 1
  | .ireturn => Nat.beq b0 172 && Nat.beq l 1
  | .ishl => Nat.beq b0 120 && Nat.beq l 1
  | .ishr => Nat.beq b0 122 && Nat.beq l 1
  | .isub => Nat.beq b0 100 && Nat.beq l 1
  | .iushr => Nat.beq b0 124 && Nat.beq l 1
  | .ixor => Nat.beq b0 130 && Nat.beq l 1
  | .l2i => Nat.beq b0 136 && Nat.beq l 1
  | .ladd => Nat.beq b0 97 && Nat.beq l 1
  | .laload => Nat.beq b0 47 && Nat.beq l 1
  | .land => Nat.beq b0 127 && Nat.beq l 1
  | .lastore => Nat.beq b0 80 && Nat.beq l 1
  | .lcmp => Nat.beq b0 148 && Nat.beq l 1
  | .lmul => Nat.beq b0 105 && Nat.beq l 1
  | .lor => Nat.beq b0 129 && Nat.beq l 1
  | .lreturn => Nat.beq b0 173 && Nat.beq l 1
  | .lshl => Nat.beq b0 121 && Nat.beq l 1
  | .pop => Nat.beq b0 87 && Nat.beq l 1
  | .pop2 => Nat.beq b0 88 && Nat.beq l 1
  | .return_ => Nat.beq b0 177 && Nat.beq l 1
  | .aload_n n => Nat.beq b0 (42 + n.val) && Nat.beq l 1
  | .astore_n n => Nat.beq b0 (75 + n.val) && Nat.beq l 1
  | .iload_n n => Nat.beq b0 (26 + n.val) && Nat.beq l 1
  | .istore_n n => Nat.beq b0 (59 + n.val) && Nat.beq l 1
  | .lload_n n => Nat.beq b0 (30 + n.val) && Nat.beq l 1
  | .lstore_n n => Nat.beq b0 (63 + n.val) && Nat.beq l 1
  | .lconst n => Nat.beq b0 (9 + n.val) && Nat.beq l 1
  | .aload x => Nat.beq b0 25 && (Nat.beq x b1 && Nat.beq l 2)
  | .astore x => Nat.beq b0 58 && (Nat.beq x b1 && Nat.beq l 2)
  | .iload x => Nat.beq b0 21 && (Nat.beq x b1 && Nat.beq l 2)
  | .istore x => Nat.beq b0 54 && (Nat.beq x b1 && Nat.beq l 2)
  | .ldc x => Nat.beq b0 18 && (Nat.beq x b1 && Nat.beq l 2)
  | .lload x => Nat.beq b0 22 && (Nat.beq x b1 && Nat.beq l 2)
  | .lstore x => Nat.beq b0 55 && (Nat.beq x b1 && Nat.beq l 2)
  | .anewarray x => Nat.beq b0 189 && (Nat.beq x (b1 * 256 + b2) && Nat.beq l 3)
  | .getfield x => Nat.beq b0 180 && (Nat.beq x (b1 * 256 + b2) && Nat.beq l 3)
  | .getstatic x => Nat.beq b0 178 && (Nat.beq x (b1 * 256 + b2) && Nat.beq l 3)
  | .invokespecial x => Nat.beq b0 183 && (Nat.beq x (b1 * 256 + b2) && Nat.beq l 3)
  | .invokestatic x => Nat.beq b0 184 && (Nat.beq x (b1 * 256 + b2) && Nat.beq l 3)
  | .invokevirtual x => Nat.beq b0 182 && (Nat.beq x (b1 * 256 + b2) && Nat.beq l 3)
  | .ldc_w x => Nat.beq b0 19 && (Nat.beq x (b1 * 256 + b2) && Nat.beq l 3)
  | .ldc2_w x => Nat.beq b0 20 && (Nat.beq x (b1 * 256 + b2) && Nat.beq l 3)
  | .new x => Nat.beq b0 187 && (Nat.beq x (b1 * 256 + b2) && Nat.beq l 3)
  | .putfield x => Nat.beq b0 181 && (Nat.beq x (b1 * 256 + b2) && Nat.beq l 3)
  | .bipush v => Nat.beq b0 16 && (decide (v = Reader.signed 8 b1) && Nat.beq l 2)
  | .sipush v => Nat.beq b0 17 && (decide (v = Reader.signed 16 (b1 * 256 + b2)) && Nat.beq l 3)
  | .goto v => Nat.beq b0 167 && (decide (v = Reader.signed 16 (b1 * 256 + b2)) && Nat.beq l 3)
  | .ifCond .eq v => Nat.beq b0 153 && (decide (v = Reader.signed 16 (b1 * 256 + b2)) && Nat.beq l 3)
  | .ifCond .ne v => Nat.beq b0 154 && (decide (v = Reader.signed 16 (b1 * 256 + b2)) && Nat.beq l 3)
  | .ifCond .lt v => Nat.beq b0 155 && (decide (v = Reader.signed 16 (b1 * 256 + b2)) && Nat.beq l 3)
  | .ifCond .ge v => Nat.beq b0 156 && (decide (v = Reader.signed 16 (b1 * 256 + b2)) && Nat.beq l 3)
  | .ifCond .gt v => Nat.beq b0 157 && (decide (v = Reader.signed 16 (b1 * 256 + b2)) && Nat.beq l 3)
  | .ifCond .le v => Nat.beq b0 158 && (decide (v = Reader.signed 16 (b1 * 256 + b2)) && Nat.beq l 3)
  | .if_icmp .eq v => Nat.beq b0 159 && (decide (v = Reader.signed 16 (b1 * 256 + b2)) && Nat.beq l 3)
  | .if_icmp .ne v => Nat.beq b0 160 && (decide (v = Reader.signed 16 (b1 * 256 + b2)) && Nat.beq l 3)
  | .if_icmp .lt v => Nat.beq b0 161 && (decide (v = Reader.signed 16 (b1 * 256 + b2)) && Nat.beq l 3)
  | .if_icmp .ge v => Nat.beq b0 162 && (decide (v = Reader.signed 16 (b1 * 256 + b2)) && Nat.beq l 3)
  | .if_icmp .gt v => Nat.beq b0 163 && (decide (v = Reader.signed 16 (b1 * 256 + b2)) && Nat.beq l 3)
  | .if_icmp .le v => Nat.beq b0 164 && (decide (v = Reader.signed 16 (b1 * 256 + b2)) && Nat.beq l 3)
  | .iinc x v => Nat.beq b0 132 && ((Nat.beq x b1 && decide (v = Reader.signed 8 b2)) && Nat.beq l 3)
  | .iconst n => en_ic n b0 && Nat.beq l 1
  | _ => false
set_option maxRecDepth 100000 in
theorem en_ok {B : ByteArray} {pc l : Nat} {i : Instr} (hs : l ≤ (B.data.toList.drop pc).length) (h : en_c i l (en_b (B.data.toList.drop pc) 0) (en_b (B.data.toList.drop pc) 1) (en_b (B.data.toList.drop pc) 2) = true) : decode B pc = .ok (i, l) := by
  cases i with
  | aaload => exact en_K1 hs h rfl
  | aastore => exact en_K1 hs h rfl
  | areturn => exact en_K1 hs h rfl
  | arraylength => exact en_K1 hs h rfl
  | baload => exact en_K1 hs h rfl
  | dup => exact en_K1 hs h rfl
  | dup2 => exact en_K1 hs h rfl
  | dup_x1 => exact en_K1 hs h rfl
  | i2b => exact en_K1 hs h rfl
  | i2c => exact en_K1 hs h rfl
  | i2l => exact en_K1 hs h rfl
  | i2s => exact en_K1 hs h rfl
  | iadd => exact en_K1 hs h rfl
  | iaload => exact en_K1 hs h rfl
  | iand => exact en_K1 hs h rfl
  | iastore => exact en_K1 hs h rfl
  | idiv => exact en_K1 hs h rfl
  | imul => exact en_K1 hs h rfl
  | ineg => exact en_K1 hs h rfl
  | ior => exact en_K1 hs h rfl
  | irem => exact en_K1 hs h rfl
  | ireturn => exact en_K1 hs h rfl
  | ishl => exact en_K1 hs h rfl
  | ishr => exact en_K1 hs h rfl
  | isub => exact en_K1 hs h rfl
  | iushr => exact en_K1 hs h rfl
  | ixor => exact en_K1 hs h rfl
  | l2i => exact en_K1 hs h rfl
  | ladd => exact en_K1 hs h rfl
  | laload => exact en_K1 hs h rfl
  | land => exact en_K1 hs h rfl
  | lastore => exact en_K1 hs h rfl
  | lcmp => exact en_K1 hs h rfl
  | lmul => exact en_K1 hs h rfl
  | lor => exact en_K1 hs h rfl
  | lreturn => exact en_K1 hs h rfl
  | lshl => exact en_K1 hs h rfl
  | pop => exact en_K1 hs h rfl
  | pop2 => exact en_K1 hs h rfl
  | return_ => exact en_K1 hs h rfl
  | aload_n n =>
    match n, h with
    | 0, h => exact en_K1 (op := 42) hs h rfl
    | 1, h => exact en_K1 (op := 43) hs h rfl
    | 2, h => exact en_K1 (op := 44) hs h rfl
    | 3, h => exact en_K1 (op := 45) hs h rfl
  | astore_n n =>
    match n, h with
    | 0, h => exact en_K1 (op := 75) hs h rfl
    | 1, h => exact en_K1 (op := 76) hs h rfl
    | 2, h => exact en_K1 (op := 77) hs h rfl
    | 3, h => exact en_K1 (op := 78) hs h rfl
  | iload_n n =>
    match n, h with
    | 0, h => exact en_K1 (op := 26) hs h rfl
    | 1, h => exact en_K1 (op := 27) hs h rfl
    | 2, h => exact en_K1 (op := 28) hs h rfl
    | 3, h => exact en_K1 (op := 29) hs h rfl
  | istore_n n =>
    match n, h with
    | 0, h => exact en_K1 (op := 59) hs h rfl
    | 1, h => exact en_K1 (op := 60) hs h rfl
    | 2, h => exact en_K1 (op := 61) hs h rfl
    | 3, h => exact en_K1 (op := 62) hs h rfl
  | lload_n n =>
    match n, h with
    | 0, h => exact en_K1 (op := 30) hs h rfl
    | 1, h => exact en_K1 (op := 31) hs h rfl
    | 2, h => exact en_K1 (op := 32) hs h rfl
    | 3, h => exact en_K1 (op := 33) hs h rfl
  | lstore_n n =>
    match n, h with
    | 0, h => exact en_K1 (op := 63) hs h rfl
    | 1, h => exact en_K1 (op := 64) hs h rfl
    | 2, h => exact en_K1 (op := 65) hs h rfl
    | 3, h => exact en_K1 (op := 66) hs h rfl
  | lconst n =>
    match n, h with
    | 0, h => exact en_K1 (op := 9) hs h rfl
    | 1, h => exact en_K1 (op := 10) hs h rfl
  | aload x => exact en_K2 (f := Instr.aload) hs h rfl
  | astore x => exact en_K2 (f := Instr.astore) hs h rfl
  | iload x => exact en_K2 (f := Instr.iload) hs h rfl
  | istore x => exact en_K2 (f := Instr.istore) hs h rfl
  | ldc x => exact en_K2 (f := Instr.ldc) hs h rfl
  | lload x => exact en_K2 (f := Instr.lload) hs h rfl
  | lstore x => exact en_K2 (f := Instr.lstore) hs h rfl
  | anewarray x => exact en_K3 (f := Instr.anewarray) hs h rfl
  | getfield x => exact en_K3 (f := Instr.getfield) hs h rfl
  | getstatic x => exact en_K3 (f := Instr.getstatic) hs h rfl
  | invokespecial x => exact en_K3 (f := Instr.invokespecial) hs h rfl
  | invokestatic x => exact en_K3 (f := Instr.invokestatic) hs h rfl
  | invokevirtual x => exact en_K3 (f := Instr.invokevirtual) hs h rfl
  | ldc_w x => exact en_K3 (f := Instr.ldc_w) hs h rfl
  | ldc2_w x => exact en_K3 (f := Instr.ldc2_w) hs h rfl
  | new x => exact en_K3 (f := Instr.new) hs h rfl
  | putfield x => exact en_K3 (f := Instr.putfield) hs h rfl
  | bipush v => exact en_K4 (f := Instr.bipush) hs h rfl
  | sipush v => exact en_K5 (f := Instr.sipush) hs h rfl
  | goto v => exact en_K5 (f := Instr.goto) hs h rfl
  | ifCond c v =>
    cases c with
    | eq => exact en_K5 (f := Instr.ifCond .eq) hs h rfl
    | ne => exact en_K5 (f := Instr.ifCond .ne) hs h rfl
    | lt => exact en_K5 (f := Instr.ifCond .lt) hs h rfl
    | ge => exact en_K5 (f := Instr.ifCond .ge) hs h rfl
    | gt => exact en_K5 (f := Instr.ifCond .gt) hs h rfl
    | le => exact en_K5 (f := Instr.ifCond .le) hs h rfl
  | if_icmp c v =>
    cases c with
    | eq => exact en_K5 (f := Instr.if_icmp .eq) hs h rfl
    | ne => exact en_K5 (f := Instr.if_icmp .ne) hs h rfl
    | lt => exact en_K5 (f := Instr.if_icmp .lt) hs h rfl
    | ge => exact en_K5 (f := Instr.if_icmp .ge) hs h rfl
    | gt => exact en_K5 (f := Instr.if_icmp .gt) hs h rfl
    | le => exact en_K5 (f := Instr.if_icmp .le) hs h rfl
  | iinc x v => exact en_K6 hs h rfl
  | iconst n => exact en_ic_ok hs h
  | _ => cases h
/-- the code from a byte on -/
noncomputable def en_h : List UInt8 → Nat → Bool
  | _, 0 => true
  | [], _ + 1 => false
  | _ :: t, n + 1 => en_h t n
theorem en_h_ok : ∀ (bs : List UInt8) (n : Nat), en_h bs n = true → n ≤ bs.length
  | _, 0, _ => Nat.zero_le _
  | [], _ + 1, h => by cases h
  | _ :: t, n + 1, h => Nat.succ_le_succ (en_h_ok t n h)
noncomputable def en_k (b : ByteArray) (bs : List UInt8) (q : Nat × mi_I) : Bool := en_h bs q.2.2.1 && (match en_c q.2.1 q.2.2.1 (en_b bs 0) (en_b bs 1) (en_b bs 2) with
  | true => true
  | false => wn_dk b q.1 (wn_len q.2.1) q.2.1 q.2.2.1)
noncomputable def en_all (b : ByteArray) : List (Nat × mi_I) → List UInt8 → Nat → Bool
  | [], _, _ => true
  | q :: r, bs, pc => match Nat.beq q.1 pc with
    | true => en_k b bs q && en_all b r (bs.drop q.2.2.1) (pc + q.2.2.1)
    | false => Nat.ble pc q.1 && (en_k b (bs.drop (q.1 - pc)) q && en_all b r ((bs.drop (q.1 - pc)).drop q.2.2.1) (q.1 + q.2.2.1))
theorem en_k_ok {b : ByteArray} {q : Nat × mi_I} (e : en_k b (b.data.toList.drop q.1) q = true) : decode b q.1 = .ok (q.2.1, q.2.2.1) := by
  obtain ⟨e2, e3⟩ := Bool.and_eq_true_iff.mp (show (en_h (b.data.toList.drop q.1) q.2.2.1 && (match en_c q.2.1 q.2.2.1 (en_b (b.data.toList.drop q.1) 0) (en_b (b.data.toList.drop q.1) 1) (en_b (b.data.toList.drop q.1) 2) with
  | true => true
  | false => wn_dk b q.1 (wn_len q.2.1) q.2.1 q.2.2.1)) = true from e)
  cases ec : en_c q.2.1 q.2.2.1 (en_b (b.data.toList.drop q.1) 0) (en_b (b.data.toList.drop q.1) 1) (en_b (b.data.toList.drop q.1) 2) with
  | true => exact en_ok (en_h_ok _ _ e2) ec
  | false =>
    rw [ec] at e3
    exact wn_dk_ok e3
theorem en_all_ok (b : ByteArray) : ∀ (l : List (Nat × mi_I)) (pc : Nat), en_all b l (b.data.toList.drop pc) pc = true → ∀ q ∈ l, decode b q.1 = .ok (q.2.1, q.2.2.1)
  | [], _, _, _, hq => absurd hq List.not_mem_nil
  | z :: r, pc, h, q, hq => by
    have h : (match Nat.beq z.1 pc with
      | true => en_k b (b.data.toList.drop pc) z && en_all b r ((b.data.toList.drop pc).drop z.2.2.1) (pc + z.2.2.1)
      | false => Nat.ble pc z.1 && (en_k b ((b.data.toList.drop pc).drop (z.1 - pc)) z && en_all b r (((b.data.toList.drop pc).drop (z.1 - pc)).drop z.2.2.1) (z.1 + z.2.2.1))) = true := h
    have g : en_k b (b.data.toList.drop z.1) z = true ∧ en_all b r (b.data.toList.drop (z.1 + z.2.2.1)) (z.1 + z.2.2.1) = true := by
      cases e : Nat.beq z.1 pc with
      | true =>
        rw [e] at h
        obtain ⟨h1, h2⟩ := Bool.and_eq_true_iff.mp h
        have ep := Nat.eq_of_beq_eq_true e
        rw [List.drop_drop] at h2
        rw [ep]
        exact ⟨h1, h2⟩
      | false =>
        rw [e] at h
        obtain ⟨h1, h2⟩ := Bool.and_eq_true_iff.mp h
        obtain ⟨h2, h3⟩ := Bool.and_eq_true_iff.mp h2
        have hl := Nat.le_of_ble_eq_true h1
        rw [List.drop_drop, show pc + (z.1 - pc) = z.1 by omega] at h2
        rw [List.drop_drop, List.drop_drop, show pc + (z.1 - pc + z.2.2.1) = z.1 + z.2.2.1 by omega] at h3
        exact ⟨h2, h3⟩
    rcases List.mem_cons.mp hq with hz | hz
    · subst hz
      exact en_k_ok g.1
    · exact en_all_ok b r _ g.2 q hz
theorem en_all_ok0 {b : ByteArray} {l : List (Nat × mi_I)} (h : en_all b l b.data.toList 0 = true) {pc : Nat} {i : mi_I} (hq : (pc, i) ∈ l) : decode b pc = .ok (i.1, i.2.1) := by
  have h2 : en_all b l (b.data.toList.drop 0) 0 = true := by rw [List.drop_zero]; exact h
  have h3 := en_all_ok b l 0 h2 (pc, i) hq
  dsimp only at h3
  exact h3
end
section
/-! the code of the methods by program: place, instruction, length, what its entry names -/
noncomputable def mi_okB (own : Nat) (ini : Bool) (q : Nat × mi_I) : Bool := mi_len q.2.1 q.2.2.1 && (match mi_cpi q.2.1 with
  | none => true
  | some i => decide (mi_ua q.2.2.2.2.2.2.2 = some (own, i, q.2.2.2.2.2.1, q.2.2.2.1, q.2.2.2.2.1, q.2.2.2.2.2.2.1)) && (match q.2.1 with
    | .putfield _ => (match vwCl[q.2.2.2.1]? with
      | some c => (bif (c.2.1 q.2.2.2.2.1).2.2.2 then ini && Nat.beq own q.2.2.2.1 else true)
      | none => false)
    | _ => true))
noncomputable def mi_pokB (own : Nat) (ini : Bool) (b : ByteArray) (c : List (Nat × mi_I)) : Bool := en_all b c b.data.toList 0 && c.all (mi_okB own ini)
noncomputable def mi_find : List (Nat × mi_I) → Nat → Option mi_I
  | [], _ => none
  | q :: r, pc => match Nat.beq q.1 pc with
    | true => some q.2
    | false => mi_find r pc
theorem mi_find_in : ∀ (l : List (Nat × mi_I)) (pc : Nat) (x : mi_I), mi_find l pc = some x → (pc, x) ∈ l
  | [], _, _, h => by simp [mi_find] at h
  | (j, u) :: r, i, v, h => by
    unfold mi_find at h
    split at h
    next hj =>
      have e : j = i := Nat.eq_of_beq_eq_true hj
      cases h
      rw [e]
      exact List.mem_cons_self
    next => exact List.mem_cons_of_mem _ (mi_find_in r i v h)
noncomputable abbrev mi_o : mi_X := (0, 0, 0, 0, 0)
noncomputable def ft_flat {α : Type} : List (Nat × List (Nat × α)) → List (Nat × α)
  | [] => []
  | p :: T => p.2 ++ ft_flat T
noncomputable def ft_0 : List (Nat × List (Nat × mi_I)) := [(6, [(0, .aload_n 0, 1, mi_o), (1, .invokespecial 3, 3, 0, 0, 12, 0, 8), (4, .aload_n 0, 1, mi_o), (5, .iconst 5, 1, mi_o)]), (13, [(6, .newarray .int, 2, mi_o), (8, .putfield 9, 3, 0, 0, 0, 0, 9), (11, .aload_n 0, 1, mi_o), (12, .iconst 5, 1, mi_o)]), (20, [(13, .newarray .int, 2, mi_o), (15, .putfield 15, 3, 0, 1, 0, 0, 12), (18, .aload_n 0, 1, mi_o), (19, .iconst 0, 1, mi_o)]), (100000, [(20, .putfield 18, 3, 0, 2, 0, 0, 15), (23, .return_, 1, mi_o)])]
noncomputable def mi_c0 : List (Nat × mi_I) := ft_flat ft_0
noncomputable def ft_1 : List (Nat × List (Nat × mi_I)) := [(8, [(0, .aload_n 0, 1, mi_o), (1, .getfield 18, 3, 0, 2, 0, 0, 15), (4, .iconst 5, 1, mi_o), (5, .if_icmp .ge 33, 3, mi_o)]), (16, [(8, .aload_n 0, 1, mi_o), (9, .getfield 9, 3, 0, 0, 0, 0, 9), (12, .aload_n 0, 1, mi_o), (13, .getfield 18, 3, 0, 2, 0, 0, 15)]), (22, [(16, .iload_n 1, 1, mi_o), (17, .iastore, 1, mi_o), (18, .aload_n 0, 1, mi_o), (19, .getfield 15, 3, 0, 1, 0, 0, 12)]), (28, [(22, .aload_n 0, 1, mi_o), (23, .getfield 18, 3, 0, 2, 0, 0, 15), (26, .iload_n 2, 1, mi_o), (27, .iastore, 1, mi_o)]), (34, [(28, .aload_n 0, 1, mi_o), (29, .dup, 1, mi_o), (30, .getfield 18, 3, 0, 2, 0, 0, 15), (33, .iconst 1, 1, mi_o)]), (100000, [(34, .iadd, 1, mi_o), (35, .putfield 18, 3, 0, 2, 0, 0, 15), (38, .return_, 1, mi_o)])]
noncomputable def mi_c1 : List (Nat × mi_I) := ft_flat ft_1
noncomputable def ft_2 : List (Nat × List (Nat × mi_I)) := [(9, [(0, .aload_n 0, 1, mi_o), (1, .getfield 18, 3, 0, 2, 0, 0, 15), (4, .ifCond .le 47, 3, mi_o), (7, .aload_n 0, 1, mi_o), (8, .dup, 1, mi_o)]), (18, [(9, .getfield 18, 3, 0, 2, 0, 0, 15), (12, .iconst 1, 1, mi_o), (13, .isub, 1, mi_o), (14, .putfield 18, 3, 0, 2, 0, 0, 15), (17, .aload_n 0, 1, mi_o)]), (27, [(18, .getfield 9, 3, 0, 0, 0, 0, 9), (21, .iconst 1, 1, mi_o), (22, .aload_n 0, 1, mi_o), (23, .getfield 9, 3, 0, 0, 0, 0, 9), (26, .iconst 0, 1, mi_o)]), (38, [(27, .aload_n 0, 1, mi_o), (28, .getfield 18, 3, 0, 2, 0, 0, 15), (31, .invokestatic 22, 3, 0, 0, 11, 0, 218), (34, .aload_n 0, 1, mi_o), (35, .getfield 15, 3, 0, 1, 0, 0, 12)]), (45, [(38, .iconst 1, 1, mi_o), (39, .aload_n 0, 1, mi_o), (40, .getfield 15, 3, 0, 1, 0, 0, 12), (43, .iconst 0, 1, mi_o), (44, .aload_n 0, 1, mi_o)]), (100000, [(45, .getfield 18, 3, 0, 2, 0, 0, 15), (48, .invokestatic 22, 3, 0, 0, 11, 0, 218), (51, .return_, 1, mi_o)])]
noncomputable def mi_c2 : List (Nat × mi_I) := ft_flat ft_2
noncomputable def ft_3 : List (Nat × List (Nat × mi_I)) := [(6, [(0, .aload_n 1, 1, mi_o), (1, .getfield 9, 3, 0, 0, 0, 0, 9), (4, .iconst 0, 1, mi_o), (5, .aload_n 0, 1, mi_o)]), (14, [(6, .getfield 9, 3, 0, 0, 0, 0, 9), (9, .iconst 0, 1, mi_o), (10, .iconst 5, 1, mi_o), (11, .invokestatic 22, 3, 0, 0, 11, 0, 218)]), (20, [(14, .aload_n 1, 1, mi_o), (15, .getfield 15, 3, 0, 1, 0, 0, 12), (18, .iconst 0, 1, mi_o), (19, .aload_n 0, 1, mi_o)]), (28, [(20, .getfield 15, 3, 0, 1, 0, 0, 12), (23, .iconst 0, 1, mi_o), (24, .iconst 5, 1, mi_o), (25, .invokestatic 22, 3, 0, 0, 11, 0, 218)]), (36, [(28, .aload_n 0, 1, mi_o), (29, .aload_n 1, 1, mi_o), (30, .getfield 18, 3, 0, 2, 0, 0, 15), (33, .putfield 18, 3, 0, 2, 0, 0, 15)]), (100000, [(36, .return_, 1, mi_o)])]
noncomputable def mi_c3 : List (Nat × mi_I) := ft_flat ft_3
noncomputable def ft_4 : List (Nat × List (Nat × mi_I)) := [(9, [(0, .aload_n 0, 1, mi_o), (1, .invokespecial 1, 3, 0, 0, 12, 0, 92), (4, .aload_n 0, 1, mi_o), (5, .bipush 40, 2, mi_o), (7, .newarray .int, 2, mi_o)]), (20, [(9, .putfield 9, 3, 1, 0, 0, 0, 93), (12, .aload_n 0, 1, mi_o), (13, .bipush 40, 2, mi_o), (15, .newarray .int, 2, mi_o), (17, .putfield 13, 3, 1, 1, 0, 0, 95)]), (29, [(20, .aload_n 0, 1, mi_o), (21, .bipush 40, 2, mi_o), (23, .newarray .int, 2, mi_o), (25, .putfield 16, 3, 1, 2, 0, 0, 97), (28, .aload_n 0, 1, mi_o)]), (38, [(29, .bipush 40, 2, mi_o), (31, .newarray .int, 2, mi_o), (33, .putfield 19, 3, 1, 3, 0, 0, 99), (36, .aload_n 0, 1, mi_o), (37, .iconst 0, 1, mi_o)]), (100000, [(38, .putfield 22, 3, 1, 4, 0, 0, 101), (41, .aload_n 0, 1, mi_o), (42, .iconst 0, 1, mi_o), (43, .putfield 26, 3, 1, 5, 0, 0, 103), (46, .return_, 1, mi_o)])]
noncomputable def mi_c4 : List (Nat × mi_I) := ft_flat ft_4
noncomputable def ft_5 : List (Nat × List (Nat × mi_I)) := [(13, [(0, .aload_n 0, 1, mi_o), (1, .getfield 26, 3, 1, 5, 0, 0, 103), (4, .bipush 40, 2, mi_o), (6, .if_icmp .lt 7, 3, mi_o), (9, .aload_n 0, 1, mi_o), (10, .invokevirtual 29, 3, 6, 0, 9, 0, 169)]), (23, [(13, .aload_n 0, 1, mi_o), (14, .getfield 9, 3, 1, 0, 0, 0, 93), (17, .aload_n 0, 1, mi_o), (18, .getfield 26, 3, 1, 5, 0, 0, 103), (21, .iload_n 1, 1, mi_o), (22, .iastore, 1, mi_o)]), (33, [(23, .aload_n 0, 1, mi_o), (24, .getfield 13, 3, 1, 1, 0, 0, 95), (27, .aload_n 0, 1, mi_o), (28, .getfield 26, 3, 1, 5, 0, 0, 103), (31, .iload_n 2, 1, mi_o), (32, .iastore, 1, mi_o)]), (43, [(33, .aload_n 0, 1, mi_o), (34, .getfield 16, 3, 1, 2, 0, 0, 97), (37, .aload_n 0, 1, mi_o), (38, .getfield 26, 3, 1, 5, 0, 0, 103), (41, .iload_n 3, 1, mi_o), (42, .iastore, 1, mi_o)]), (54, [(43, .aload_n 0, 1, mi_o), (44, .getfield 19, 3, 1, 3, 0, 0, 99), (47, .aload_n 0, 1, mi_o), (48, .getfield 26, 3, 1, 5, 0, 0, 103), (51, .iload 4, 2, mi_o), (53, .iastore, 1, mi_o)]), (64, [(54, .aload_n 0, 1, mi_o), (55, .dup, 1, mi_o), (56, .getfield 26, 3, 1, 5, 0, 0, 103), (59, .iconst 1, 1, mi_o), (60, .iadd, 1, mi_o), (61, .putfield 26, 3, 1, 5, 0, 0, 103)]), (100000, [(64, .aload_n 0, 1, mi_o), (65, .aload_n 0, 1, mi_o), (66, .getfield 26, 3, 1, 5, 0, 0, 103), (69, .putfield 22, 3, 1, 4, 0, 0, 101), (72, .return_, 1, mi_o)])]
noncomputable def mi_c5 : List (Nat × mi_I) := ft_flat ft_5
noncomputable def ft_6 : List (Nat × List (Nat × mi_I)) := [(11, [(0, .aload_n 0, 1, mi_o), (1, .bipush 39, 2, mi_o), (3, .putfield 26, 3, 1, 5, 0, 0, 103), (6, .aload_n 0, 1, mi_o), (7, .getfield 9, 3, 1, 0, 0, 0, 93), (10, .iconst 1, 1, mi_o)]), (23, [(11, .aload_n 0, 1, mi_o), (12, .getfield 9, 3, 1, 0, 0, 0, 93), (15, .iconst 0, 1, mi_o), (16, .aload_n 0, 1, mi_o), (17, .getfield 26, 3, 1, 5, 0, 0, 103), (20, .invokestatic 32, 3, 0, 0, 11, 0, 170)]), (33, [(23, .aload_n 0, 1, mi_o), (24, .getfield 13, 3, 1, 1, 0, 0, 95), (27, .iconst 1, 1, mi_o), (28, .aload_n 0, 1, mi_o), (29, .getfield 13, 3, 1, 1, 0, 0, 95), (32, .iconst 0, 1, mi_o)]), (45, [(33, .aload_n 0, 1, mi_o), (34, .getfield 26, 3, 1, 5, 0, 0, 103), (37, .invokestatic 32, 3, 0, 0, 11, 0, 170), (40, .aload_n 0, 1, mi_o), (41, .getfield 16, 3, 1, 2, 0, 0, 97), (44, .iconst 1, 1, mi_o)]), (57, [(45, .aload_n 0, 1, mi_o), (46, .getfield 16, 3, 1, 2, 0, 0, 97), (49, .iconst 0, 1, mi_o), (50, .aload_n 0, 1, mi_o), (51, .getfield 26, 3, 1, 5, 0, 0, 103), (54, .invokestatic 32, 3, 0, 0, 11, 0, 170)]), (67, [(57, .aload_n 0, 1, mi_o), (58, .getfield 19, 3, 1, 3, 0, 0, 99), (61, .iconst 1, 1, mi_o), (62, .aload_n 0, 1, mi_o), (63, .getfield 19, 3, 1, 3, 0, 0, 99), (66, .iconst 0, 1, mi_o)]), (100000, [(67, .aload_n 0, 1, mi_o), (68, .getfield 26, 3, 1, 5, 0, 0, 103), (71, .invokestatic 32, 3, 0, 0, 11, 0, 170), (74, .return_, 1, mi_o)])]
noncomputable def mi_c6 : List (Nat × mi_I) := ft_flat ft_6
noncomputable def ft_7 : List (Nat × List (Nat × mi_I)) := [(7, [(0, .aload_n 0, 1, mi_o), (1, .invokespecial 3, 3, 0, 0, 12, 0, 107), (4, .aload_n 0, 1, mi_o), (5, .bipush 50, 2, mi_o)]), (14, [(7, .newarray .int, 2, mi_o), (9, .putfield 11, 3, 2, 0, 0, 0, 108), (12, .aload_n 0, 1, mi_o), (13, .iconst 0, 1, mi_o)]), (22, [(14, .putfield 15, 3, 2, 1, 0, 0, 110), (17, .aload_n 0, 1, mi_o), (18, .bipush 24, 2, mi_o), (20, .newarray .int, 2, mi_o)]), (30, [(22, .putfield 19, 3, 2, 2, 0, 0, 112), (25, .aload_n 0, 1, mi_o), (26, .iconst 0, 1, mi_o), (27, .putfield 22, 3, 2, 3, 0, 0, 114)]), (100000, [(30, .return_, 1, mi_o)])]
noncomputable def mi_c7 : List (Nat × mi_I) := ft_flat ft_7
noncomputable def ft_8 : List (Nat × List (Nat × mi_I)) := [(6, [(0, .iload_n 1, 1, mi_o), (1, .ifCond .lt 21, 3, mi_o), (4, .iload_n 1, 1, mi_o), (5, .aload_n 0, 1, mi_o)]), (15, [(6, .getfield 15, 3, 2, 1, 0, 0, 110), (9, .if_icmp .ge 13, 3, mi_o), (12, .iload_n 1, 1, mi_o), (13, .bipush 50, 2, mi_o)]), (23, [(15, .if_icmp .ge 7, 3, mi_o), (18, .iconst 1, 1, mi_o), (19, .goto 4, 3, mi_o), (22, .iconst 0, 1, mi_o)]), (100000, [(23, .ireturn, 1, mi_o)])]
noncomputable def mi_c8 : List (Nat × mi_I) := ft_flat ft_8
noncomputable def ft_9 : List (Nat × List (Nat × mi_I)) := [(9, [(0, .aload_n 0, 1, mi_o), (1, .getfield 15, 3, 2, 1, 0, 0, 110), (4, .bipush 50, 2, mi_o), (6, .if_icmp .lt 6, 3, mi_o)]), (16, [(9, .bipush (-3), 2, mi_o), (11, .ireturn, 1, mi_o), (12, .aload_n 0, 1, mi_o), (13, .getfield 11, 3, 2, 0, 0, 0, 108)]), (22, [(16, .aload_n 0, 1, mi_o), (17, .getfield 15, 3, 2, 1, 0, 0, 110), (20, .iload_n 1, 1, mi_o), (21, .iastore, 1, mi_o)]), (28, [(22, .aload_n 0, 1, mi_o), (23, .dup, 1, mi_o), (24, .getfield 15, 3, 2, 1, 0, 0, 110), (27, .iconst 1, 1, mi_o)]), (36, [(28, .iadd, 1, mi_o), (29, .putfield 15, 3, 2, 1, 0, 0, 110), (32, .aload_n 0, 1, mi_o), (33, .getfield 15, 3, 2, 1, 0, 0, 110)]), (100000, [(36, .iconst 1, 1, mi_o), (37, .isub, 1, mi_o), (38, .ireturn, 1, mi_o)])]
noncomputable def mi_c9 : List (Nat × mi_I) := ft_flat ft_9
noncomputable def ft_10 : List (Nat × List (Nat × mi_I)) := [(5, [(0, .iload_n 0, 1, mi_o), (1, .istore_n 2, 1, mi_o), (2, .iconst 0, 1, mi_o), (3, .istore_n 3, 1, mi_o), (4, .iload_n 3, 1, mi_o)]), (15, [(5, .bipush 8, 2, mi_o), (7, .if_icmp .ge 32, 3, mi_o), (10, .iload_n 2, 1, mi_o), (11, .ifCond .lt 28, 3, mi_o), (14, .iload_n 2, 1, mi_o)]), (25, [(15, .bipush 8, 2, mi_o), (17, .if_icmp .ge 22, 3, mi_o), (20, .iload_n 2, 1, mi_o), (21, .iload_n 1, 1, mi_o), (22, .if_icmp .ne 5, 3, mi_o)]), (32, [(25, .iconst 1, 1, mi_o), (26, .ireturn, 1, mi_o), (27, .getstatic 25, 3, 4, 0, 1, 0, 300), (30, .iload_n 2, 1, mi_o), (31, .iaload, 1, mi_o)]), (100000, [(32, .istore_n 2, 1, mi_o), (33, .iinc 3 1, 3, mi_o), (36, .goto (-32), 3, mi_o), (39, .iconst 0, 1, mi_o), (40, .ireturn, 1, mi_o)])]
noncomputable def mi_c10 : List (Nat × mi_I) := ft_flat ft_10
noncomputable def ft_11 : List (Nat × List (Nat × mi_I)) := [(5, [(0, .iload_n 0, 1, mi_o), (1, .istore_n 2, 1, mi_o), (2, .iconst 0, 1, mi_o), (3, .istore_n 3, 1, mi_o), (4, .iload_n 3, 1, mi_o)]), (15, [(5, .bipush 8, 2, mi_o), (7, .if_icmp .ge 39, 3, mi_o), (10, .iload_n 2, 1, mi_o), (11, .ifCond .le 35, 3, mi_o), (14, .iload_n 2, 1, mi_o)]), (25, [(15, .bipush 8, 2, mi_o), (17, .if_icmp .ge 29, 3, mi_o), (20, .getstatic 28, 3, 3, 0, 1, 0, 299), (23, .iload_n 2, 1, mi_o), (24, .iconst 4, 1, mi_o)]), (32, [(25, .imul, 1, mi_o), (26, .iload_n 1, 1, mi_o), (27, .iadd, 1, mi_o), (28, .iaload, 1, mi_o), (29, .ifCond .eq 5, 3, mi_o)]), (39, [(32, .iload_n 2, 1, mi_o), (33, .ireturn, 1, mi_o), (34, .getstatic 25, 3, 4, 0, 1, 0, 300), (37, .iload_n 2, 1, mi_o), (38, .iaload, 1, mi_o)]), (100000, [(39, .istore_n 2, 1, mi_o), (40, .iinc 3 1, 3, mi_o), (43, .goto (-39), 3, mi_o), (46, .iconst 0, 1, mi_o), (47, .ireturn, 1, mi_o)])]
noncomputable def mi_c11 : List (Nat × mi_I) := ft_flat ft_11
noncomputable def ft_12 : List (Nat × List (Nat × mi_I)) := [(7, [(0, .aload_n 0, 1, mi_o), (1, .iconst 0, 1, mi_o), (2, .putfield 22, 3, 2, 3, 0, 0, 114), (5, .aload_n 0, 1, mi_o), (6, .iload_n 1, 1, mi_o)]), (18, [(7, .invokevirtual 31, 3, 8, 0, 9, 0, 296), (10, .ifCond .eq 12, 3, mi_o), (13, .iload_n 2, 1, mi_o), (14, .ifCond .lt 8, 3, mi_o), (17, .iload_n 2, 1, mi_o)]), (25, [(18, .iconst 4, 1, mi_o), (19, .if_icmp .lt 5, 3, mi_o), (22, .iconst 0, 1, mi_o), (23, .ireturn, 1, mi_o), (24, .aload_n 0, 1, mi_o)]), (32, [(25, .iload_n 1, 1, mi_o), (26, .aload_n 0, 1, mi_o), (27, .getfield 11, 3, 2, 0, 0, 0, 108), (30, .iload_n 1, 1, mi_o), (31, .iaload, 1, mi_o)]), (100000, [(32, .iload_n 2, 1, mi_o), (33, .iload_n 3, 1, mi_o), (34, .iconst 0, 1, mi_o), (35, .invokevirtual 35, 3, 13, 0, 9, 0, 297), (38, .ireturn, 1, mi_o)])]
noncomputable def mi_c12 : List (Nat × mi_I) := ft_flat ft_12
noncomputable def ft_13 : List (Nat × List (Nat × mi_I)) := [(19, [(0, .iload 5, 2, mi_o), (2, .bipush 40, 2, mi_o), (4, .if_icmp .lt 5, 3, mi_o), (7, .iconst 0, 1, mi_o), (8, .ireturn, 1, mi_o), (9, .iload_n 2, 1, mi_o), (10, .iload_n 3, 1, mi_o), (11, .invokestatic 39, 3, 11, 0, 9, 0, 298), (14, .istore 6, 2, mi_o), (16, .getstatic 28, 3, 3, 0, 1, 0, 299)]), (34, [(19, .iload 6, 2, mi_o), (21, .iconst 4, 1, mi_o), (22, .imul, 1, mi_o), (23, .iload_n 3, 1, mi_o), (24, .iadd, 1, mi_o), (25, .iaload, 1, mi_o), (26, .istore 7, 2, mi_o), (28, .aload_n 0, 1, mi_o), (29, .getfield 22, 3, 2, 3, 0, 0, 114), (32, .bipush 24, 2, mi_o)]), (53, [(34, .if_icmp .ge 14, 3, mi_o), (37, .aload_n 0, 1, mi_o), (38, .getfield 19, 3, 2, 2, 0, 0, 112), (41, .aload_n 0, 1, mi_o), (42, .getfield 22, 3, 2, 3, 0, 0, 114), (45, .iload 7, 2, mi_o), (47, .iastore, 1, mi_o), (48, .aload_n 0, 1, mi_o), (49, .dup, 1, mi_o), (50, .getfield 22, 3, 2, 3, 0, 0, 114)]), (70, [(53, .iconst 1, 1, mi_o), (54, .iadd, 1, mi_o), (55, .putfield 22, 3, 2, 3, 0, 0, 114), (58, .iload 6, 2, mi_o), (60, .ifCond .ne 16, 3, mi_o), (63, .aload_n 0, 1, mi_o), (64, .iload_n 1, 1, mi_o), (65, .iload_n 3, 1, mi_o), (66, .iload 4, 2, mi_o), (68, .iload 5, 2, mi_o)]), (85, [(70, .iconst 1, 1, mi_o), (71, .iadd, 1, mi_o), (72, .invokevirtual 43, 3, 14, 0, 9, 0, 301), (75, .ireturn, 1, mi_o), (76, .aload_n 0, 1, mi_o), (77, .iload_n 1, 1, mi_o), (78, .getstatic 25, 3, 4, 0, 1, 0, 300), (81, .iload 6, 2, mi_o), (83, .iaload, 1, mi_o), (84, .iload_n 3, 1, mi_o)]), (104, [(85, .iload 7, 2, mi_o), (87, .bipush 41, 2, mi_o), (89, .if_icmp .ne 10, 3, mi_o), (92, .iload 4, 2, mi_o), (94, .iconst 1, 1, mi_o), (95, .iadd, 1, mi_o), (96, .goto 5, 3, mi_o), (99, .iload 4, 2, mi_o), (101, .iload 5, 2, mi_o), (103, .iconst 1, 1, mi_o)]), (195, [(104, .iadd, 1, mi_o), (105, .invokevirtual 35, 3, 13, 0, 9, 0, 297), (108, .istore 8, 2, mi_o), (110, .iload 7, 2, mi_o), (112, .lookupswitch 147 #[(20, 76), (30, 81), (40, 85), (50, 90), (60, 111), (70, 116), (80, 121), (81, 142)], 76, mi_o), (188, .iload 8, 2, mi_o), (190, .iconst 3, 1, mi_o), (191, .iadd, 1, mi_o), (192, .ireturn, 1, mi_o), (193, .iload 8, 2, mi_o)]), (207, [(195, .ineg, 1, mi_o), (196, .ireturn, 1, mi_o), (197, .iload 8, 2, mi_o), (199, .iconst 3, 1, mi_o), (200, .imul, 1, mi_o), (201, .ireturn, 1, mi_o), (202, .iload 8, 2, mi_o), (204, .aload_n 0, 1, mi_o), (205, .iload_n 1, 1, mi_o), (206, .aload_n 0, 1, mi_o)]), (222, [(207, .getfield 11, 3, 2, 0, 0, 0, 108), (210, .iload_n 1, 1, mi_o), (211, .iaload, 1, mi_o), (212, .iconst 0, 1, mi_o), (213, .iconst 2, 1, mi_o), (214, .iload 5, 2, mi_o), (216, .iconst 1, 1, mi_o), (217, .iadd, 1, mi_o), (218, .invokevirtual 35, 3, 13, 0, 9, 0, 297), (221, .isub, 1, mi_o)]), (235, [(222, .ireturn, 1, mi_o), (223, .iload 8, 2, mi_o), (225, .iconst 5, 1, mi_o), (226, .ixor, 1, mi_o), (227, .ireturn, 1, mi_o), (228, .iload 8, 2, mi_o), (230, .iconst 2, 1, mi_o), (231, .imul, 1, mi_o), (232, .ireturn, 1, mi_o), (233, .iload 8, 2, mi_o)]), (248, [(235, .aload_n 0, 1, mi_o), (236, .iload_n 1, 1, mi_o), (237, .aload_n 0, 1, mi_o), (238, .getfield 11, 3, 2, 0, 0, 0, 108), (241, .iload_n 1, 1, mi_o), (242, .iaload, 1, mi_o), (243, .iconst 2, 1, mi_o), (244, .iconst 2, 1, mi_o), (245, .iload 5, 2, mi_o), (247, .iconst 1, 1, mi_o)]), (100000, [(248, .iadd, 1, mi_o), (249, .invokevirtual 35, 3, 13, 0, 9, 0, 297), (252, .iadd, 1, mi_o), (253, .ireturn, 1, mi_o), (254, .iload 8, 2, mi_o), (256, .iconst 1, 1, mi_o), (257, .isub, 1, mi_o), (258, .ireturn, 1, mi_o), (259, .iload 8, 2, mi_o), (261, .ireturn, 1, mi_o)])]
noncomputable def mi_c13 : List (Nat × mi_I) := ft_flat ft_13
noncomputable def ft_14 : List (Nat × List (Nat × mi_I)) := [(9, [(0, .aload_n 0, 1, mi_o), (1, .getfield 11, 3, 2, 0, 0, 0, 108), (4, .iload_n 1, 1, mi_o), (5, .iaload, 1, mi_o), (6, .istore 5, 2, mi_o), (8, .iload_n 2, 1, mi_o)]), (41, [(9, .tableswitch 49 0 2 #[27, 31, 45], 27, mi_o), (36, .iload_n 3, 1, mi_o), (37, .iload_n 1, 1, mi_o), (38, .iadd, 1, mi_o), (39, .ireturn, 1, mi_o), (40, .aload_n 0, 1, mi_o)]), (51, [(41, .iload_n 1, 1, mi_o), (42, .iload 5, 2, mi_o), (44, .iconst 0, 1, mi_o), (45, .iload_n 3, 1, mi_o), (46, .iload 4, 2, mi_o), (48, .invokevirtual 35, 3, 13, 0, 9, 0, 297)]), (57, [(51, .iconst 2, 1, mi_o), (52, .imul, 1, mi_o), (53, .ireturn, 1, mi_o), (54, .iload_n 3, 1, mi_o), (55, .iload_n 1, 1, mi_o), (56, .ixor, 1, mi_o)]), (64, [(57, .ireturn, 1, mi_o), (58, .aload_n 0, 1, mi_o), (59, .iload_n 1, 1, mi_o), (60, .iload 5, 2, mi_o), (62, .iconst 1, 1, mi_o), (63, .iload_n 3, 1, mi_o)]), (75, [(64, .iload 4, 2, mi_o), (66, .invokevirtual 35, 3, 13, 0, 9, 0, 297), (69, .istore 6, 2, mi_o), (71, .iload 6, 2, mi_o), (73, .aload_n 0, 1, mi_o), (74, .iload_n 1, 1, mi_o)]), (85, [(75, .iload 5, 2, mi_o), (77, .iconst 2, 1, mi_o), (78, .iconst 1, 1, mi_o), (79, .iload 4, 2, mi_o), (81, .invokevirtual 35, 3, 13, 0, 9, 0, 297), (84, .isub, 1, mi_o)]), (100000, [(85, .ireturn, 1, mi_o)])]
noncomputable def mi_c14 : List (Nat × mi_I) := ft_flat ft_14
noncomputable def ft_15 : List (Nat × List (Nat × mi_I)) := [(6, [(0, .aload_n 0, 1, mi_o), (1, .invokespecial 3, 3, 0, 0, 12, 0, 20), (4, .aload_n 0, 1, mi_o), (5, .iconst 0, 1, mi_o)]), (14, [(6, .putfield 9, 3, 3, 0, 0, 0, 21), (9, .aload_n 0, 1, mi_o), (10, .bipush 121, 2, mi_o), (12, .newarray .int, 2, mi_o)]), (22, [(14, .putfield 15, 3, 3, 1, 0, 0, 24), (17, .aload_n 0, 1, mi_o), (18, .bipush 121, 2, mi_o), (20, .newarray .int, 2, mi_o)]), (30, [(22, .putfield 19, 3, 3, 2, 0, 0, 25), (25, .aload_n 0, 1, mi_o), (26, .iconst 0, 1, mi_o), (27, .putfield 22, 3, 3, 3, 0, 0, 26)]), (38, [(30, .aload_n 0, 1, mi_o), (31, .bipush 121, 2, mi_o), (33, .newarray .int, 2, mi_o), (35, .putfield 26, 3, 3, 4, 0, 0, 27)]), (100000, [(38, .aload_n 0, 1, mi_o), (39, .iconst 0, 1, mi_o), (40, .putfield 29, 3, 3, 5, 0, 0, 28), (43, .return_, 1, mi_o)])]
noncomputable def mi_c15 : List (Nat × mi_I) := ft_flat ft_15
noncomputable def ft_16 : List (Nat × List (Nat × mi_I)) := [(6, [(0, .aload_n 0, 1, mi_o), (1, .iconst 0, 1, mi_o), (2, .putfield 9, 3, 3, 0, 0, 0, 21), (5, .aload_n 0, 1, mi_o)]), (100000, [(6, .iconst 0, 1, mi_o), (7, .putfield 22, 3, 3, 3, 0, 0, 26), (10, .return_, 1, mi_o)])]
noncomputable def mi_c16 : List (Nat × mi_I) := ft_flat ft_16
noncomputable def ft_17 : List (Nat × List (Nat × mi_I)) := [(10, [(0, .aload_n 0, 1, mi_o), (1, .getfield 22, 3, 3, 3, 0, 0, 26), (4, .bipush 121, 2, mi_o), (6, .if_icmp .ge 33, 3, mi_o), (9, .aload_n 0, 1, mi_o)]), (19, [(10, .getfield 15, 3, 3, 1, 0, 0, 24), (13, .aload_n 0, 1, mi_o), (14, .getfield 22, 3, 3, 3, 0, 0, 26), (17, .iload_n 1, 1, mi_o), (18, .iastore, 1, mi_o)]), (28, [(19, .aload_n 0, 1, mi_o), (20, .getfield 19, 3, 3, 2, 0, 0, 25), (23, .aload_n 0, 1, mi_o), (24, .getfield 22, 3, 3, 3, 0, 0, 26), (27, .iload_n 2, 1, mi_o)]), (35, [(28, .iastore, 1, mi_o), (29, .aload_n 0, 1, mi_o), (30, .dup, 1, mi_o), (31, .getfield 22, 3, 3, 3, 0, 0, 26), (34, .iconst 1, 1, mi_o)]), (44, [(35, .iadd, 1, mi_o), (36, .putfield 22, 3, 3, 3, 0, 0, 26), (39, .aload_n 0, 1, mi_o), (40, .getfield 22, 3, 3, 3, 0, 0, 26), (43, .iconst 1, 1, mi_o)]), (100000, [(44, .isub, 1, mi_o), (45, .ireturn, 1, mi_o)])]
noncomputable def mi_c17 : List (Nat × mi_I) := ft_flat ft_17
noncomputable def ft_18 : List (Nat × List (Nat × mi_I)) := [(6, [(0, .iload_n 1, 1, mi_o), (1, .ifCond .lt 21, 3, mi_o), (4, .iload_n 1, 1, mi_o), (5, .aload_n 0, 1, mi_o)]), (16, [(6, .getfield 22, 3, 3, 3, 0, 0, 26), (9, .if_icmp .ge 13, 3, mi_o), (12, .aload_n 0, 1, mi_o), (13, .getfield 19, 3, 3, 2, 0, 0, 25)]), (22, [(16, .iload_n 1, 1, mi_o), (17, .aload_n 0, 1, mi_o), (18, .getfield 22, 3, 3, 3, 0, 0, 26), (21, .iastore, 1, mi_o)]), (100000, [(22, .return_, 1, mi_o)])]
noncomputable def mi_c18 : List (Nat × mi_I) := ft_flat ft_18
noncomputable def ft_19 : List (Nat × List (Nat × mi_I)) := [(9, [(0, .aload_n 0, 1, mi_o), (1, .getfield 29, 3, 3, 5, 0, 0, 28), (4, .bipush 121, 2, mi_o), (6, .if_icmp .ge 23, 3, mi_o)]), (17, [(9, .aload_n 0, 1, mi_o), (10, .getfield 26, 3, 3, 4, 0, 0, 27), (13, .aload_n 0, 1, mi_o), (14, .getfield 29, 3, 3, 5, 0, 0, 28)]), (21, [(17, .iload_n 1, 1, mi_o), (18, .iastore, 1, mi_o), (19, .aload_n 0, 1, mi_o), (20, .dup, 1, mi_o)]), (29, [(21, .getfield 29, 3, 3, 5, 0, 0, 28), (24, .iconst 1, 1, mi_o), (25, .iadd, 1, mi_o), (26, .putfield 29, 3, 3, 5, 0, 0, 28)]), (100000, [(29, .return_, 1, mi_o)])]
noncomputable def mi_c19 : List (Nat × mi_I) := ft_flat ft_19
noncomputable def ft_20 : List (Nat × List (Nat × mi_I)) := [(8, [(0, .aload_n 0, 1, mi_o), (1, .getfield 29, 3, 3, 5, 0, 0, 28), (4, .ifCond .gt 5, 3, mi_o), (7, .iconst 0, 1, mi_o)]), (14, [(8, .ireturn, 1, mi_o), (9, .aload_n 0, 1, mi_o), (10, .dup, 1, mi_o), (11, .getfield 29, 3, 3, 5, 0, 0, 28)]), (20, [(14, .iconst 1, 1, mi_o), (15, .isub, 1, mi_o), (16, .putfield 29, 3, 3, 5, 0, 0, 28), (19, .aload_n 0, 1, mi_o)]), (28, [(20, .getfield 26, 3, 3, 4, 0, 0, 27), (23, .aload_n 0, 1, mi_o), (24, .getfield 29, 3, 3, 5, 0, 0, 28), (27, .iaload, 1, mi_o)]), (100000, [(28, .ireturn, 1, mi_o)])]
noncomputable def mi_c20 : List (Nat × mi_I) := ft_flat ft_20
noncomputable def ft_21 : List (Nat × List (Nat × mi_I)) := [(12, [(0, .aload_n 0, 1, mi_o), (1, .iconst 0, 1, mi_o), (2, .putfield 29, 3, 3, 5, 0, 0, 28), (5, .iconst 0, 1, mi_o), (6, .istore_n 2, 1, mi_o), (7, .iconst 0, 1, mi_o), (8, .istore_n 3, 1, mi_o), (9, .iload_n 3, 1, mi_o), (10, .bipush 121, 2, mi_o)]), (31, [(12, .if_icmp .ge 208, 3, mi_o), (15, .iload_n 2, 1, mi_o), (16, .ifCond .lt 204, 3, mi_o), (19, .iload_n 2, 1, mi_o), (20, .aload_n 0, 1, mi_o), (21, .getfield 22, 3, 3, 3, 0, 0, 26), (24, .if_icmp .ge 196, 3, mi_o), (27, .aload_n 0, 1, mi_o), (28, .getfield 15, 3, 3, 1, 0, 0, 24)]), (46, [(31, .iload_n 2, 1, mi_o), (32, .iaload, 1, mi_o), (33, .istore 4, 2, mi_o), (35, .aload_n 0, 1, mi_o), (36, .getfield 19, 3, 3, 2, 0, 0, 25), (39, .iload_n 2, 1, mi_o), (40, .iaload, 1, mi_o), (41, .istore 5, 2, mi_o), (43, .iinc 2 1, 3, mi_o)]), (123, [(46, .iload 4, 2, mi_o), (48, .lookupswitch 145 #[(0, 60), (1, 69), (2, 96), (3, 101), (33, 114), (126, 133)], 60, mi_o), (108, .aload_n 0, 1, mi_o), (109, .iload 5, 2, mi_o), (111, .invokevirtual 32, 3, 19, 0, 9, 0, 225), (114, .goto 100, 3, mi_o), (117, .aload_n 0, 1, mi_o), (118, .iload 5, 2, mi_o), (120, .ifCond .lt 17, 3, mi_o)]), (138, [(123, .iload 5, 2, mi_o), (125, .aload_n 1, 1, mi_o), (126, .arraylength, 1, mi_o), (127, .if_icmp .ge 10, 3, mi_o), (130, .aload_n 1, 1, mi_o), (131, .iload 5, 2, mi_o), (133, .iaload, 1, mi_o), (134, .goto 4, 3, mi_o), (137, .iconst 0, 1, mi_o)]), (158, [(138, .invokevirtual 32, 3, 19, 0, 9, 0, 225), (141, .goto 73, 3, mi_o), (144, .aload_n 0, 1, mi_o), (145, .invokevirtual 36, 3, 20, 0, 9, 0, 226), (148, .ireturn, 1, mi_o), (149, .aload_n 0, 1, mi_o), (150, .invokevirtual 36, 3, 20, 0, 9, 0, 226), (153, .ifCond .ne 61, 3, mi_o), (156, .iload 5, 2, mi_o)]), (175, [(158, .istore_n 2, 1, mi_o), (159, .goto 55, 3, mi_o), (162, .aload_n 0, 1, mi_o), (163, .aload_n 0, 1, mi_o), (164, .invokevirtual 36, 3, 20, 0, 9, 0, 226), (167, .ifCond .ne 7, 3, mi_o), (170, .iconst 1, 1, mi_o), (171, .goto 4, 3, mi_o), (174, .iconst 0, 1, mi_o)]), (194, [(175, .invokevirtual 32, 3, 19, 0, 9, 0, 225), (178, .goto 36, 3, mi_o), (181, .aload_n 0, 1, mi_o), (182, .aload_n 0, 1, mi_o), (183, .invokevirtual 36, 3, 20, 0, 9, 0, 226), (186, .ineg, 1, mi_o), (187, .invokevirtual 32, 3, 19, 0, 9, 0, 225), (190, .goto 24, 3, mi_o), (193, .aload_n 0, 1, mi_o)]), (214, [(194, .invokevirtual 36, 3, 20, 0, 9, 0, 226), (197, .istore 6, 2, mi_o), (199, .aload_n 0, 1, mi_o), (200, .iload 4, 2, mi_o), (202, .aload_n 0, 1, mi_o), (203, .invokevirtual 36, 3, 20, 0, 9, 0, 226), (206, .iload 6, 2, mi_o), (208, .invokestatic 40, 3, 22, 0, 9, 0, 227), (211, .invokevirtual 32, 3, 19, 0, 9, 0, 225)]), (100000, [(214, .iinc 3 1, 3, mi_o), (217, .goto (-208), 3, mi_o), (220, .iconst 0, 1, mi_o), (221, .ireturn, 1, mi_o)])]
noncomputable def mi_c21 : List (Nat × mi_I) := ft_flat ft_21
noncomputable def ft_22 : List (Nat × List (Nat × mi_I)) := [(104, [(0, .iload_n 0, 1, mi_o), (1, .lookupswitch 188 #[(37, 176), (38, 105), (42, 160), (43, 152), (45, 156), (47, 164), (60, 119), (61, 130), (62, 141), (124, 91)], 91, mi_o), (92, .iload_n 1, 1, mi_o), (93, .ifCond .ne 7, 3, mi_o), (96, .iload_n 2, 1, mi_o), (97, .ifCond .eq 7, 3, mi_o), (100, .iconst 1, 1, mi_o), (101, .goto 4, 3, mi_o)]), (118, [(104, .iconst 0, 1, mi_o), (105, .ireturn, 1, mi_o), (106, .iload_n 1, 1, mi_o), (107, .ifCond .eq 11, 3, mi_o), (110, .iload_n 2, 1, mi_o), (111, .ifCond .eq 7, 3, mi_o), (114, .iconst 1, 1, mi_o), (115, .goto 4, 3, mi_o)]), (130, [(118, .iconst 0, 1, mi_o), (119, .ireturn, 1, mi_o), (120, .iload_n 1, 1, mi_o), (121, .iload_n 2, 1, mi_o), (122, .if_icmp .ge 7, 3, mi_o), (125, .iconst 1, 1, mi_o), (126, .goto 4, 3, mi_o), (129, .iconst 0, 1, mi_o)]), (142, [(130, .ireturn, 1, mi_o), (131, .iload_n 1, 1, mi_o), (132, .iload_n 2, 1, mi_o), (133, .if_icmp .ne 7, 3, mi_o), (136, .iconst 1, 1, mi_o), (137, .goto 4, 3, mi_o), (140, .iconst 0, 1, mi_o), (141, .ireturn, 1, mi_o)]), (154, [(142, .iload_n 1, 1, mi_o), (143, .iload_n 2, 1, mi_o), (144, .if_icmp .le 7, 3, mi_o), (147, .iconst 1, 1, mi_o), (148, .goto 4, 3, mi_o), (151, .iconst 0, 1, mi_o), (152, .ireturn, 1, mi_o), (153, .iload_n 1, 1, mi_o)]), (162, [(154, .iload_n 2, 1, mi_o), (155, .iadd, 1, mi_o), (156, .ireturn, 1, mi_o), (157, .iload_n 1, 1, mi_o), (158, .iload_n 2, 1, mi_o), (159, .isub, 1, mi_o), (160, .ireturn, 1, mi_o), (161, .iload_n 1, 1, mi_o)]), (174, [(162, .iload_n 2, 1, mi_o), (163, .imul, 1, mi_o), (164, .ireturn, 1, mi_o), (165, .iload_n 2, 1, mi_o), (166, .ifCond .ne 7, 3, mi_o), (169, .iconst 0, 1, mi_o), (170, .goto 6, 3, mi_o), (173, .iload_n 1, 1, mi_o)]), (186, [(174, .iload_n 2, 1, mi_o), (175, .idiv, 1, mi_o), (176, .ireturn, 1, mi_o), (177, .iload_n 2, 1, mi_o), (178, .ifCond .ne 7, 3, mi_o), (181, .iconst 0, 1, mi_o), (182, .goto 6, 3, mi_o), (185, .iload_n 1, 1, mi_o)]), (100000, [(186, .iload_n 2, 1, mi_o), (187, .irem, 1, mi_o), (188, .ireturn, 1, mi_o), (189, .iconst 0, 1, mi_o), (190, .ireturn, 1, mi_o)])]
noncomputable def mi_c22 : List (Nat × mi_I) := ft_flat ft_22
noncomputable def ft_23 : List (Nat × List (Nat × mi_I)) := [(14, [(0, .aload_n 0, 1, mi_o), (1, .invokespecial 3, 3, 0, 0, 12, 0, 5), (4, .aload_n 0, 1, mi_o), (5, .iconst 0, 1, mi_o), (6, .putfield 9, 3, 4, 0, 0, 0, 34), (9, .aload_n 0, 1, mi_o), (10, .bipush 8, 2, mi_o), (12, .newarray .int, 2, mi_o)]), (30, [(14, .putfield 15, 3, 4, 1, 0, 0, 37), (17, .aload_n 0, 1, mi_o), (18, .bipush 8, 2, mi_o), (20, .newarray .int, 2, mi_o), (22, .putfield 19, 3, 4, 2, 0, 0, 40), (25, .aload_n 0, 1, mi_o), (26, .bipush 8, 2, mi_o), (28, .newarray .int, 2, mi_o)]), (46, [(30, .putfield 22, 3, 4, 3, 0, 0, 41), (33, .aload_n 0, 1, mi_o), (34, .bipush 8, 2, mi_o), (36, .newarray .int, 2, mi_o), (38, .putfield 25, 3, 4, 4, 0, 0, 42), (41, .aload_n 0, 1, mi_o), (42, .bipush 8, 2, mi_o), (44, .newarray .int, 2, mi_o)]), (60, [(46, .putfield 28, 3, 4, 5, 0, 0, 43), (49, .aload_n 0, 1, mi_o), (50, .iconst 3, 1, mi_o), (51, .putfield 31, 3, 4, 6, 0, 0, 44), (54, .aload_n 0, 1, mi_o), (55, .iconst 1, 1, mi_o), (56, .putfield 34, 3, 4, 7, 0, 0, 46), (59, .aload_n 0, 1, mi_o)]), (74, [(60, .iconst 0, 1, mi_o), (61, .putfield 37, 3, 4, 8, 0, 0, 47), (64, .aload_n 0, 1, mi_o), (65, .iconst 0, 1, mi_o), (66, .putfield 40, 3, 4, 9, 0, 0, 49), (69, .aload_n 0, 1, mi_o), (70, .new 43, 3, 0, 0, 3, 0, 6), (73, .dup, 1, mi_o)]), (92, [(74, .invokespecial 45, 3, 0, 0, 10, 0, 7), (77, .putfield 46, 3, 4, 10, 0, 0, 50), (80, .aload_n 0, 1, mi_o), (81, .new 50, 3, 3, 0, 3, 0, 18), (84, .dup, 1, mi_o), (85, .invokespecial 52, 3, 15, 0, 10, 0, 19), (88, .putfield 53, 3, 4, 11, 0, 0, 52), (91, .aload_n 0, 1, mi_o)]), (110, [(92, .iconst 5, 1, mi_o), (93, .newarray .int, 2, mi_o), (95, .putfield 57, 3, 4, 12, 0, 0, 54), (98, .aload_n 0, 1, mi_o), (99, .bipush 8, 2, mi_o), (101, .bipush 8, 2, mi_o), (103, .multianewarray 60 2, 4, 0, 0, 5, 0, 29), (107, .putfield 62, 3, 4, 13, 0, 0, 57)]), (123, [(110, .aload_n 0, 1, mi_o), (111, .bipush 8, 2, mi_o), (113, .putfield 65, 3, 4, 14, 0, 0, 60), (116, .aload_n 0, 1, mi_o), (117, .iconst 0, 1, mi_o), (118, .putfield 68, 3, 4, 15, 0, 0, 62), (121, .aload_n 0, 1, mi_o), (122, .iconst 0, 1, mi_o)]), (100000, [(123, .putfield 71, 3, 4, 16, 0, 0, 63), (126, .aload_n 0, 1, mi_o), (127, .ldc 74, 2, 0, 0, 8, 0, 30), (129, .invokevirtual 76, 3, 227, 0, 9, 0, 31), (132, .newarray .int, 2, mi_o), (134, .putfield 82, 3, 4, 17, 0, 0, 65), (137, .return_, 1, mi_o)])]
noncomputable def mi_c23 : List (Nat × mi_I) := ft_flat ft_23
noncomputable def ft_24 : List (Nat × List (Nat × mi_I)) := [(6, [(0, .iload_n 1, 1, mi_o), (1, .ifCond .lt 21, 3, mi_o), (4, .iload_n 1, 1, mi_o), (5, .aload_n 0, 1, mi_o)]), (15, [(6, .getfield 9, 3, 4, 0, 0, 0, 34), (9, .if_icmp .ge 13, 3, mi_o), (12, .iload_n 1, 1, mi_o), (13, .bipush 8, 2, mi_o)]), (23, [(15, .if_icmp .ge 7, 3, mi_o), (18, .iconst 1, 1, mi_o), (19, .goto 4, 3, mi_o), (22, .iconst 0, 1, mi_o)]), (100000, [(23, .ireturn, 1, mi_o)])]
noncomputable def mi_c24 : List (Nat × mi_I) := ft_flat ft_24
noncomputable def ft_25 : List (Nat × List (Nat × mi_I)) := [(12, [(0, .aload_n 0, 1, mi_o), (1, .getfield 9, 3, 4, 0, 0, 0, 34), (4, .bipush 8, 2, mi_o), (6, .if_icmp .lt 6, 3, mi_o), (9, .bipush (-3), 2, mi_o), (11, .ireturn, 1, mi_o)]), (22, [(12, .aload_n 0, 1, mi_o), (13, .getfield 15, 3, 4, 1, 0, 0, 37), (16, .aload_n 0, 1, mi_o), (17, .getfield 9, 3, 4, 0, 0, 0, 34), (20, .iload_n 1, 1, mi_o), (21, .iastore, 1, mi_o)]), (32, [(22, .aload_n 0, 1, mi_o), (23, .getfield 19, 3, 4, 2, 0, 0, 40), (26, .aload_n 0, 1, mi_o), (27, .getfield 9, 3, 4, 0, 0, 0, 34), (30, .iload_n 2, 1, mi_o), (31, .iastore, 1, mi_o)]), (42, [(32, .aload_n 0, 1, mi_o), (33, .getfield 22, 3, 4, 3, 0, 0, 41), (36, .aload_n 0, 1, mi_o), (37, .getfield 9, 3, 4, 0, 0, 0, 34), (40, .iload_n 3, 1, mi_o), (41, .iastore, 1, mi_o)]), (52, [(42, .aload_n 0, 1, mi_o), (43, .getfield 25, 3, 4, 4, 0, 0, 42), (46, .aload_n 0, 1, mi_o), (47, .getfield 9, 3, 4, 0, 0, 0, 34), (50, .iconst 0, 1, mi_o), (51, .iastore, 1, mi_o)]), (62, [(52, .aload_n 0, 1, mi_o), (53, .getfield 28, 3, 4, 5, 0, 0, 43), (56, .aload_n 0, 1, mi_o), (57, .getfield 9, 3, 4, 0, 0, 0, 34), (60, .iconst 0, 1, mi_o), (61, .iastore, 1, mi_o)]), (72, [(62, .aload_n 0, 1, mi_o), (63, .dup, 1, mi_o), (64, .getfield 9, 3, 4, 0, 0, 0, 34), (67, .iconst 1, 1, mi_o), (68, .iadd, 1, mi_o), (69, .putfield 9, 3, 4, 0, 0, 0, 34)]), (100000, [(72, .aload_n 0, 1, mi_o), (73, .getfield 9, 3, 4, 0, 0, 0, 34), (76, .iconst 1, 1, mi_o), (77, .isub, 1, mi_o), (78, .ireturn, 1, mi_o)])]
noncomputable def mi_c25 : List (Nat × mi_I) := ft_flat ft_25
noncomputable def ft_26 : List (Nat × List (Nat × mi_I)) := [(32, [(0, .iload_n 1, 1, mi_o), (1, .tableswitch 42 0 2 #[27, 32, 37], 27, mi_o), (28, .aload_n 0, 1, mi_o), (29, .getfield 15, 3, 4, 1, 0, 0, 37)]), (38, [(32, .areturn, 1, mi_o), (33, .aload_n 0, 1, mi_o), (34, .getfield 19, 3, 4, 2, 0, 0, 40), (37, .areturn, 1, mi_o)]), (44, [(38, .aload_n 0, 1, mi_o), (39, .getfield 22, 3, 4, 3, 0, 0, 41), (42, .areturn, 1, mi_o), (43, .aload_n 0, 1, mi_o)]), (100000, [(44, .getfield 25, 3, 4, 4, 0, 0, 42), (47, .areturn, 1, mi_o)])]
noncomputable def mi_c26 : List (Nat × mi_I) := ft_flat ft_26
noncomputable def ft_27 : List (Nat × List (Nat × mi_I)) := [(32, [(0, .iload_n 2, 1, mi_o), (1, .tableswitch 42 4 6 #[27, 32, 37], 27, mi_o), (28, .aload_n 0, 1, mi_o), (29, .getfield 31, 3, 4, 6, 0, 0, 44)]), (38, [(32, .ireturn, 1, mi_o), (33, .aload_n 0, 1, mi_o), (34, .getfield 34, 3, 4, 7, 0, 0, 46), (37, .ireturn, 1, mi_o)]), (44, [(38, .aload_n 0, 1, mi_o), (39, .getfield 37, 3, 4, 8, 0, 0, 47), (42, .ireturn, 1, mi_o), (43, .aload_n 0, 1, mi_o)]), (52, [(44, .iload_n 1, 1, mi_o), (45, .invokevirtual 85, 3, 24, 0, 9, 0, 165), (48, .ifCond .eq 13, 3, mi_o), (51, .aload_n 0, 1, mi_o)]), (58, [(52, .iload_n 2, 1, mi_o), (53, .invokevirtual 89, 3, 26, 0, 9, 0, 166), (56, .iload_n 1, 1, mi_o), (57, .iaload, 1, mi_o)]), (100000, [(58, .goto 4, 3, mi_o), (61, .iconst (-1), 1, mi_o), (62, .ireturn, 1, mi_o)])]
noncomputable def mi_c27 : List (Nat × mi_I) := ft_flat ft_27
noncomputable def ft_28 : List (Nat × List (Nat × mi_I)) := [(7, [(0, .iload_n 2, 1, mi_o), (1, .iconst 4, 1, mi_o), (2, .if_icmp .ne 11, 3, mi_o), (5, .aload_n 0, 1, mi_o), (6, .iload_n 3, 1, mi_o)]), (18, [(7, .putfield 31, 3, 4, 6, 0, 0, 44), (10, .goto 46, 3, mi_o), (13, .iload_n 2, 1, mi_o), (14, .iconst 5, 1, mi_o), (15, .if_icmp .ne 11, 3, mi_o)]), (27, [(18, .aload_n 0, 1, mi_o), (19, .iload_n 3, 1, mi_o), (20, .putfield 34, 3, 4, 7, 0, 0, 46), (23, .goto 33, 3, mi_o), (26, .iload_n 2, 1, mi_o)]), (37, [(27, .bipush 6, 2, mi_o), (29, .if_icmp .ne 11, 3, mi_o), (32, .aload_n 0, 1, mi_o), (33, .iload_n 3, 1, mi_o), (34, .putfield 37, 3, 4, 8, 0, 0, 47)]), (48, [(37, .goto 19, 3, mi_o), (40, .aload_n 0, 1, mi_o), (41, .iload_n 1, 1, mi_o), (42, .invokevirtual 85, 3, 24, 0, 9, 0, 165), (45, .ifCond .eq 11, 3, mi_o)]), (55, [(48, .aload_n 0, 1, mi_o), (49, .iload_n 2, 1, mi_o), (50, .invokevirtual 89, 3, 26, 0, 9, 0, 166), (53, .iload_n 1, 1, mi_o), (54, .iload_n 3, 1, mi_o)]), (100000, [(55, .iastore, 1, mi_o), (56, .return_, 1, mi_o)])]
noncomputable def mi_c28 : List (Nat × mi_I) := ft_flat ft_28
noncomputable def ft_29 : List (Nat × List (Nat × mi_I)) := [(16, [(0, .aload_n 0, 1, mi_o), (1, .bipush 8, 2, mi_o), (3, .putfield 65, 3, 4, 14, 0, 0, 60), (6, .aload_n 0, 1, mi_o), (7, .iconst 0, 1, mi_o), (8, .putfield 68, 3, 4, 15, 0, 0, 62), (11, .aload_n 0, 1, mi_o), (12, .iconst 0, 1, mi_o), (13, .putfield 71, 3, 4, 16, 0, 0, 63)]), (35, [(16, .aload_n 0, 1, mi_o), (17, .iload_n 1, 1, mi_o), (18, .invokevirtual 85, 3, 24, 0, 9, 0, 165), (21, .ifCond .eq 20, 3, mi_o), (24, .aload_n 0, 1, mi_o), (25, .getfield 34, 3, 4, 7, 0, 0, 46), (28, .ifCond .ne 15, 3, mi_o), (31, .aload_n 0, 1, mi_o), (32, .getfield 25, 3, 4, 4, 0, 0, 42)]), (48, [(35, .iload_n 1, 1, mi_o), (36, .iaload, 1, mi_o), (37, .iconst 1, 1, mi_o), (38, .if_icmp .ne 5, 3, mi_o), (41, .iconst 0, 1, mi_o), (42, .ireturn, 1, mi_o), (43, .aload_n 0, 1, mi_o), (44, .getfield 15, 3, 4, 1, 0, 0, 37), (47, .iload_n 1, 1, mi_o)]), (61, [(48, .iaload, 1, mi_o), (49, .istore_n 2, 1, mi_o), (50, .iconst 0, 1, mi_o), (51, .istore_n 3, 1, mi_o), (52, .iload_n 3, 1, mi_o), (53, .iconst 5, 1, mi_o), (54, .if_icmp .ge 28, 3, mi_o), (57, .aload_n 0, 1, mi_o), (58, .getfield 46, 3, 4, 10, 0, 0, 50)]), (82, [(61, .getfield 93, 3, 0, 2, 0, 0, 16), (64, .aload_n 0, 1, mi_o), (65, .getfield 31, 3, 4, 6, 0, 0, 44), (68, .if_icmp .lt 14, 3, mi_o), (71, .aload_n 0, 1, mi_o), (72, .iload_n 1, 1, mi_o), (73, .invokevirtual 96, 3, 30, 0, 9, 0, 221), (76, .iinc 3 1, 3, mi_o), (79, .goto (-27), 3, mi_o)]), (97, [(82, .aload_n 0, 1, mi_o), (83, .aload_n 0, 1, mi_o), (84, .iload_n 1, 1, mi_o), (85, .iload_n 2, 1, mi_o), (86, .invokevirtual 100, 3, 31, 0, 9, 0, 223), (89, .putfield 71, 3, 4, 16, 0, 0, 63), (92, .aload_n 0, 1, mi_o), (93, .getfield 46, 3, 4, 10, 0, 0, 50), (96, .iload_n 1, 1, mi_o)]), (114, [(97, .aload_n 0, 1, mi_o), (98, .getfield 71, 3, 4, 16, 0, 0, 63), (101, .invokevirtual 104, 3, 1, 0, 9, 0, 228), (104, .aload_n 0, 1, mi_o), (105, .dup, 1, mi_o), (106, .getfield 40, 3, 4, 9, 0, 0, 49), (109, .iconst 1, 1, mi_o), (110, .iadd, 1, mi_o), (111, .putfield 40, 3, 4, 9, 0, 0, 49)]), (125, [(114, .aload_n 0, 1, mi_o), (115, .getfield 28, 3, 4, 5, 0, 0, 43), (118, .iload_n 1, 1, mi_o), (119, .dup2, 1, mi_o), (120, .iaload, 1, mi_o), (121, .iconst 1, 1, mi_o), (122, .iadd, 1, mi_o), (123, .iastore, 1, mi_o), (124, .aload_n 0, 1, mi_o)]), (138, [(125, .getfield 57, 3, 4, 12, 0, 0, 54), (128, .iconst 0, 1, mi_o), (129, .dup2, 1, mi_o), (130, .iaload, 1, mi_o), (131, .iconst 1, 1, mi_o), (132, .iadd, 1, mi_o), (133, .iastore, 1, mi_o), (134, .aload_n 0, 1, mi_o), (135, .getfield 57, 3, 4, 12, 0, 0, 54)]), (151, [(138, .iconst 1, 1, mi_o), (139, .dup2, 1, mi_o), (140, .iaload, 1, mi_o), (141, .aload_n 0, 1, mi_o), (142, .getfield 68, 3, 4, 15, 0, 0, 62), (145, .iadd, 1, mi_o), (146, .iastore, 1, mi_o), (147, .aload_n 0, 1, mi_o), (148, .getfield 68, 3, 4, 15, 0, 0, 62)]), (100000, [(151, .ireturn, 1, mi_o)])]
noncomputable def mi_c29 : List (Nat × mi_I) := ft_flat ft_29
noncomputable def ft_30 : List (Nat × List (Nat × mi_I)) := [(17, [(0, .aload_n 0, 1, mi_o), (1, .getfield 46, 3, 4, 10, 0, 0, 50), (4, .getfield 108, 3, 0, 0, 0, 0, 10), (7, .iconst 0, 1, mi_o), (8, .iaload, 1, mi_o), (9, .istore_n 2, 1, mi_o), (10, .aload_n 0, 1, mi_o), (11, .getfield 46, 3, 4, 10, 0, 0, 50), (14, .getfield 111, 3, 0, 1, 0, 0, 13)]), (33, [(17, .iconst 0, 1, mi_o), (18, .iaload, 1, mi_o), (19, .istore_n 3, 1, mi_o), (20, .aload_n 0, 1, mi_o), (21, .getfield 46, 3, 4, 10, 0, 0, 50), (24, .invokevirtual 114, 3, 2, 0, 9, 0, 222), (27, .aload_n 0, 1, mi_o), (28, .getfield 65, 3, 4, 14, 0, 0, 60), (31, .bipush 8, 2, mi_o)]), (48, [(33, .if_icmp .ne 8, 3, mi_o), (36, .aload_n 0, 1, mi_o), (37, .iload_n 2, 1, mi_o), (38, .putfield 65, 3, 4, 14, 0, 0, 60), (41, .iload_n 2, 1, mi_o), (42, .iload_n 1, 1, mi_o), (43, .if_icmp .eq 11, 3, mi_o), (46, .aload_n 0, 1, mi_o), (47, .iload_n 2, 1, mi_o)]), (65, [(48, .invokevirtual 85, 3, 24, 0, 9, 0, 165), (51, .ifCond .ne 4, 3, mi_o), (54, .return_, 1, mi_o), (55, .iload_n 3, 1, mi_o), (56, .aload_n 0, 1, mi_o), (57, .getfield 15, 3, 4, 1, 0, 0, 37), (60, .iload_n 2, 1, mi_o), (61, .iaload, 1, mi_o), (62, .invokestatic 117, 3, 0, 0, 15, 0, 214)]), (78, [(65, .istore 4, 2, mi_o), (67, .aload_n 0, 1, mi_o), (68, .getfield 15, 3, 4, 1, 0, 0, 37), (71, .iload_n 2, 1, mi_o), (72, .dup2, 1, mi_o), (73, .iaload, 1, mi_o), (74, .iload 4, 2, mi_o), (76, .isub, 1, mi_o), (77, .iastore, 1, mi_o)]), (94, [(78, .aload_n 0, 1, mi_o), (79, .getfield 15, 3, 4, 1, 0, 0, 37), (82, .iload_n 1, 1, mi_o), (83, .sipush 999, 3, mi_o), (86, .aload_n 0, 1, mi_o), (87, .getfield 15, 3, 4, 1, 0, 0, 37), (90, .iload_n 1, 1, mi_o), (91, .iaload, 1, mi_o), (92, .iload 4, 2, mi_o)]), (110, [(94, .iadd, 1, mi_o), (95, .invokestatic 117, 3, 0, 0, 15, 0, 214), (98, .iastore, 1, mi_o), (99, .aload_n 0, 1, mi_o), (100, .dup, 1, mi_o), (101, .getfield 68, 3, 4, 15, 0, 0, 62), (104, .iload 4, 2, mi_o), (106, .iadd, 1, mi_o), (107, .putfield 68, 3, 4, 15, 0, 0, 62)]), (122, [(110, .aload_n 0, 1, mi_o), (111, .getfield 57, 3, 4, 12, 0, 0, 54), (114, .iconst 2, 1, mi_o), (115, .dup2, 1, mi_o), (116, .iaload, 1, mi_o), (117, .iload_n 3, 1, mi_o), (118, .iload 4, 2, mi_o), (120, .isub, 1, mi_o), (121, .iadd, 1, mi_o)]), (134, [(122, .iastore, 1, mi_o), (123, .aload_n 0, 1, mi_o), (124, .getfield 62, 3, 4, 13, 0, 0, 57), (127, .iload_n 2, 1, mi_o), (128, .aaload, 1, mi_o), (129, .iload_n 1, 1, mi_o), (130, .dup2, 1, mi_o), (131, .iaload, 1, mi_o), (132, .iload 4, 2, mi_o)]), (100000, [(134, .iadd, 1, mi_o), (135, .iastore, 1, mi_o), (136, .return_, 1, mi_o)])]
noncomputable def mi_c30 : List (Nat × mi_I) := ft_flat ft_30
noncomputable def ft_31 : List (Nat × List (Nat × mi_I)) := [(12, [(0, .iconst 5, 1, mi_o), (1, .aload_n 0, 1, mi_o), (2, .getfield 19, 3, 4, 2, 0, 0, 40), (5, .iload_n 1, 1, mi_o), (6, .iaload, 1, mi_o), (7, .imul, 1, mi_o), (8, .aload_n 0, 1, mi_o), (9, .getfield 22, 3, 4, 3, 0, 0, 41)]), (22, [(12, .iload_n 1, 1, mi_o), (13, .iaload, 1, mi_o), (14, .iadd, 1, mi_o), (15, .iconst 2, 1, mi_o), (16, .aload_n 0, 1, mi_o), (17, .getfield 28, 3, 4, 5, 0, 0, 43), (20, .iload_n 1, 1, mi_o), (21, .iaload, 1, mi_o)]), (36, [(22, .imul, 1, mi_o), (23, .isub, 1, mi_o), (24, .istore_n 3, 1, mi_o), (25, .aload_n 0, 1, mi_o), (26, .getfield 53, 3, 4, 11, 0, 0, 52), (29, .getfield 122, 3, 3, 0, 0, 0, 23), (32, .ifCond .eq 78, 3, mi_o), (35, .aload_n 0, 1, mi_o)]), (48, [(36, .getfield 82, 3, 4, 17, 0, 0, 65), (39, .iconst 0, 1, mi_o), (40, .aload_n 0, 1, mi_o), (41, .getfield 19, 3, 4, 2, 0, 0, 40), (44, .iload_n 1, 1, mi_o), (45, .iaload, 1, mi_o), (46, .iastore, 1, mi_o), (47, .aload_n 0, 1, mi_o)]), (60, [(48, .getfield 82, 3, 4, 17, 0, 0, 65), (51, .iconst 1, 1, mi_o), (52, .iload_n 2, 1, mi_o), (53, .iastore, 1, mi_o), (54, .aload_n 0, 1, mi_o), (55, .getfield 82, 3, 4, 17, 0, 0, 65), (58, .iconst 2, 1, mi_o), (59, .aload_n 0, 1, mi_o)]), (72, [(60, .getfield 22, 3, 4, 3, 0, 0, 41), (63, .iload_n 1, 1, mi_o), (64, .iaload, 1, mi_o), (65, .iastore, 1, mi_o), (66, .aload_n 0, 1, mi_o), (67, .getfield 82, 3, 4, 17, 0, 0, 65), (70, .iconst 3, 1, mi_o), (71, .aload_n 0, 1, mi_o)]), (86, [(72, .getfield 40, 3, 4, 9, 0, 0, 49), (75, .iastore, 1, mi_o), (76, .aload_n 0, 1, mi_o), (77, .getfield 82, 3, 4, 17, 0, 0, 65), (80, .iconst 4, 1, mi_o), (81, .aload_n 0, 1, mi_o), (82, .getfield 28, 3, 4, 5, 0, 0, 43), (85, .iload_n 1, 1, mi_o)]), (98, [(86, .iaload, 1, mi_o), (87, .iastore, 1, mi_o), (88, .aload_n 0, 1, mi_o), (89, .getfield 82, 3, 4, 17, 0, 0, 65), (92, .iconst 5, 1, mi_o), (93, .aload_n 0, 1, mi_o), (94, .getfield 37, 3, 4, 8, 0, 0, 47), (97, .iastore, 1, mi_o)]), (113, [(98, .aload_n 0, 1, mi_o), (99, .getfield 53, 3, 4, 11, 0, 0, 52), (102, .aload_n 0, 1, mi_o), (103, .getfield 82, 3, 4, 17, 0, 0, 65), (106, .invokevirtual 126, 3, 21, 0, 9, 0, 224), (109, .istore_n 3, 1, mi_o), (110, .iconst 0, 1, mi_o), (111, .bipush 99, 2, mi_o)]), (100000, [(113, .iload_n 3, 1, mi_o), (114, .invokestatic 117, 3, 0, 0, 15, 0, 214), (117, .invokestatic 130, 3, 0, 0, 14, 0, 215), (120, .ireturn, 1, mi_o)])]
noncomputable def mi_c31 : List (Nat × mi_I) := ft_flat ft_31
noncomputable def ft_32 : List (Nat × List (Nat × mi_I)) := [(8, [(0, .aload_n 0, 1, mi_o), (1, .bipush 99, 2, mi_o), (3, .aload_n 0, 1, mi_o), (4, .getfield 37, 3, 4, 8, 0, 0, 47), (7, .iconst 1, 1, mi_o)]), (17, [(8, .iadd, 1, mi_o), (9, .invokestatic 117, 3, 0, 0, 15, 0, 214), (12, .putfield 37, 3, 4, 8, 0, 0, 47), (15, .aload_n 0, 1, mi_o), (16, .iconst 0, 1, mi_o)]), (25, [(17, .putfield 40, 3, 4, 9, 0, 0, 49), (20, .iconst 0, 1, mi_o), (21, .istore_n 1, 1, mi_o), (22, .iload_n 1, 1, mi_o), (23, .bipush 8, 2, mi_o)]), (34, [(25, .if_icmp .ge 16, 3, mi_o), (28, .aload_n 0, 1, mi_o), (29, .getfield 28, 3, 4, 5, 0, 0, 43), (32, .iload_n 1, 1, mi_o), (33, .iconst 0, 1, mi_o)]), (45, [(34, .iastore, 1, mi_o), (35, .iinc 1 1, 3, mi_o), (38, .goto (-16), 3, mi_o), (41, .aload_n 0, 1, mi_o), (42, .getfield 57, 3, 4, 12, 0, 0, 54)]), (50, [(45, .iconst 3, 1, mi_o), (46, .dup2, 1, mi_o), (47, .iaload, 1, mi_o), (48, .iconst 1, 1, mi_o), (49, .iadd, 1, mi_o)]), (100000, [(50, .iastore, 1, mi_o), (51, .return_, 1, mi_o)])]
noncomputable def mi_c32 : List (Nat × mi_I) := ft_flat ft_32
noncomputable def ft_33 : List (Nat × List (Nat × mi_I)) := [(11, [(0, .iconst 0, 1, mi_o), (1, .iload_n 2, 1, mi_o), (2, .bipush 8, 2, mi_o), (4, .invokestatic 117, 3, 0, 0, 15, 0, 214), (7, .invokestatic 130, 3, 0, 0, 14, 0, 215), (10, .istore_n 3, 1, mi_o)]), (21, [(11, .aload_n 1, 1, mi_o), (12, .getfield 15, 3, 4, 1, 0, 0, 37), (15, .iconst 0, 1, mi_o), (16, .aload_n 0, 1, mi_o), (17, .getfield 15, 3, 4, 1, 0, 0, 37), (20, .iconst 0, 1, mi_o)]), (31, [(21, .iload_n 3, 1, mi_o), (22, .invokestatic 133, 3, 0, 0, 11, 0, 216), (25, .aload_n 1, 1, mi_o), (26, .getfield 28, 3, 4, 5, 0, 0, 43), (29, .iconst 0, 1, mi_o), (30, .aload_n 0, 1, mi_o)]), (43, [(31, .getfield 28, 3, 4, 5, 0, 0, 43), (34, .iconst 0, 1, mi_o), (35, .iload_n 3, 1, mi_o), (36, .invokestatic 133, 3, 0, 0, 11, 0, 216), (39, .aload_n 1, 1, mi_o), (40, .getfield 57, 3, 4, 12, 0, 0, 54)]), (53, [(43, .iconst 0, 1, mi_o), (44, .aload_n 0, 1, mi_o), (45, .getfield 57, 3, 4, 12, 0, 0, 54), (48, .iconst 0, 1, mi_o), (49, .iconst 5, 1, mi_o), (50, .invokestatic 133, 3, 0, 0, 11, 0, 216)]), (63, [(53, .aload_n 0, 1, mi_o), (54, .aload_n 1, 1, mi_o), (55, .getfield 37, 3, 4, 8, 0, 0, 47), (58, .putfield 37, 3, 4, 8, 0, 0, 47), (61, .aload_n 0, 1, mi_o), (62, .aload_n 1, 1, mi_o)]), (77, [(63, .getfield 40, 3, 4, 9, 0, 0, 49), (66, .putfield 40, 3, 4, 9, 0, 0, 49), (69, .aload_n 0, 1, mi_o), (70, .getfield 46, 3, 4, 10, 0, 0, 50), (73, .aload_n 1, 1, mi_o), (74, .getfield 46, 3, 4, 10, 0, 0, 50)]), (100000, [(77, .invokevirtual 139, 3, 3, 0, 9, 0, 217), (80, .return_, 1, mi_o)])]
noncomputable def mi_c33 : List (Nat × mi_I) := ft_flat ft_33
noncomputable def ft_34 : List (Nat × List (Nat × mi_I)) := [(15, [(0, .aload_n 0, 1, mi_o), (1, .aload_n 1, 1, mi_o), (2, .bipush 8, 2, mi_o), (4, .invokevirtual 143, 3, 33, 0, 9, 0, 213), (7, .aload_n 0, 1, mi_o), (8, .aload_n 1, 1, mi_o), (9, .getfield 9, 3, 4, 0, 0, 0, 34), (12, .putfield 9, 3, 4, 0, 0, 0, 34)]), (30, [(15, .aload_n 1, 1, mi_o), (16, .getfield 19, 3, 4, 2, 0, 0, 40), (19, .iconst 0, 1, mi_o), (20, .aload_n 0, 1, mi_o), (21, .getfield 19, 3, 4, 2, 0, 0, 40), (24, .iconst 0, 1, mi_o), (25, .bipush 8, 2, mi_o), (27, .invokestatic 133, 3, 0, 0, 11, 0, 216)]), (45, [(30, .aload_n 1, 1, mi_o), (31, .getfield 22, 3, 4, 3, 0, 0, 41), (34, .iconst 0, 1, mi_o), (35, .aload_n 0, 1, mi_o), (36, .getfield 22, 3, 4, 3, 0, 0, 41), (39, .iconst 0, 1, mi_o), (40, .bipush 8, 2, mi_o), (42, .invokestatic 133, 3, 0, 0, 11, 0, 216)]), (60, [(45, .aload_n 1, 1, mi_o), (46, .getfield 25, 3, 4, 4, 0, 0, 42), (49, .iconst 0, 1, mi_o), (50, .aload_n 0, 1, mi_o), (51, .getfield 25, 3, 4, 4, 0, 0, 42), (54, .iconst 0, 1, mi_o), (55, .bipush 8, 2, mi_o), (57, .invokestatic 133, 3, 0, 0, 11, 0, 216)]), (76, [(60, .aload_n 0, 1, mi_o), (61, .aload_n 1, 1, mi_o), (62, .getfield 31, 3, 4, 6, 0, 0, 44), (65, .putfield 31, 3, 4, 6, 0, 0, 44), (68, .aload_n 0, 1, mi_o), (69, .aload_n 1, 1, mi_o), (70, .getfield 34, 3, 4, 7, 0, 0, 46), (73, .putfield 34, 3, 4, 7, 0, 0, 46)]), (88, [(76, .aload_n 0, 1, mi_o), (77, .aload_n 1, 1, mi_o), (78, .getfield 53, 3, 4, 11, 0, 0, 52), (81, .putfield 53, 3, 4, 11, 0, 0, 52), (84, .iconst 0, 1, mi_o), (85, .istore_n 2, 1, mi_o), (86, .iload_n 2, 1, mi_o), (87, .iconst 4, 1, mi_o)]), (104, [(88, .if_icmp .gt 16, 3, mi_o), (91, .aload_n 0, 1, mi_o), (92, .getfield 57, 3, 4, 12, 0, 0, 54), (95, .iload_n 2, 1, mi_o), (96, .iconst 0, 1, mi_o), (97, .iastore, 1, mi_o), (98, .iinc 2 1, 3, mi_o), (101, .goto (-15), 3, mi_o)]), (115, [(104, .iconst 0, 1, mi_o), (105, .istore_n 2, 1, mi_o), (106, .iload_n 2, 1, mi_o), (107, .bipush 8, 2, mi_o), (109, .if_icmp .ge 32, 3, mi_o), (112, .iconst 0, 1, mi_o), (113, .istore_n 3, 1, mi_o), (114, .iload_n 3, 1, mi_o)]), (128, [(115, .bipush 8, 2, mi_o), (117, .if_icmp .ge 18, 3, mi_o), (120, .aload_n 0, 1, mi_o), (121, .getfield 62, 3, 4, 13, 0, 0, 57), (124, .iload_n 2, 1, mi_o), (125, .aaload, 1, mi_o), (126, .iload_n 3, 1, mi_o), (127, .iconst 0, 1, mi_o)]), (100000, [(128, .iastore, 1, mi_o), (129, .iinc 3 1, 3, mi_o), (132, .goto (-18), 3, mi_o), (135, .iinc 2 1, 3, mi_o), (138, .goto (-32), 3, mi_o), (141, .return_, 1, mi_o)])]
noncomputable def mi_c34 : List (Nat × mi_I) := ft_flat ft_34
noncomputable def ft_35 : List (Nat × List (Nat × mi_I)) := [(6, [(0, .aload_n 0, 1, mi_o), (1, .invokespecial 3, 3, 0, 0, 12, 0, 129), (4, .aload_n 0, 1, mi_o), (5, .iconst 0, 1, mi_o)]), (14, [(6, .putfield 11, 3, 5, 0, 0, 0, 130), (9, .aload_n 0, 1, mi_o), (10, .iconst (-1), 1, mi_o), (11, .putfield 15, 3, 5, 1, 0, 0, 132)]), (20, [(14, .aload_n 0, 1, mi_o), (15, .iconst 0, 1, mi_o), (16, .putfield 18, 3, 5, 2, 0, 0, 134), (19, .aload_n 0, 1, mi_o)]), (27, [(20, .iconst 0, 1, mi_o), (21, .putfield 21, 3, 5, 3, 0, 0, 136), (24, .aload_n 0, 1, mi_o), (25, .bipush 60, 2, mi_o)]), (100000, [(27, .newarray .long, 2, mi_o), (29, .putfield 24, 3, 5, 4, 0, 0, 139), (32, .return_, 1, mi_o)])]
noncomputable def mi_c35 : List (Nat × mi_I) := ft_flat ft_35
noncomputable def ft_36 : List (Nat × List (Nat × mi_I)) := [(8, [(0, .aload_n 0, 1, mi_o), (1, .getfield 11, 3, 5, 0, 0, 0, 130), (4, .iconst 2, 1, mi_o), (5, .if_icmp .ne 15, 3, mi_o)]), (16, [(8, .aload_n 0, 1, mi_o), (9, .getfield 18, 3, 5, 2, 0, 0, 134), (12, .iload_n 1, 1, mi_o), (13, .if_icmp .ne 7, 3, mi_o)]), (100000, [(16, .iconst 1, 1, mi_o), (17, .goto 4, 3, mi_o), (20, .iconst 0, 1, mi_o), (21, .ireturn, 1, mi_o)])]
noncomputable def mi_c36 : List (Nat × mi_I) := ft_flat ft_36
noncomputable def ft_37 : List (Nat × List (Nat × mi_I)) := [(6, [(0, .iload_n 2, 1, mi_o), (1, .ifCond .lt 29, 3, mi_o), (4, .iload_n 2, 1, mi_o), (5, .aload_n 0, 1, mi_o)]), (16, [(6, .getfield 21, 3, 5, 3, 0, 0, 136), (9, .if_icmp .gt 21, 3, mi_o), (12, .iload_n 1, 1, mi_o), (13, .ifCond .lt 17, 3, mi_o)]), (22, [(16, .iload_n 1, 1, mi_o), (17, .aload_n 0, 1, mi_o), (18, .getfield 21, 3, 5, 3, 0, 0, 136), (21, .iload_n 2, 1, mi_o)]), (30, [(22, .isub, 1, mi_o), (23, .if_icmp .gt 7, 3, mi_o), (26, .iconst 1, 1, mi_o), (27, .goto 4, 3, mi_o)]), (100000, [(30, .iconst 0, 1, mi_o), (31, .ireturn, 1, mi_o)])]
noncomputable def mi_c37 : List (Nat × mi_I) := ft_flat ft_37
noncomputable def ft_38 : List (Nat × List (Nat × mi_I)) := [(6, [(0, .aload_n 0, 1, mi_o), (1, .iload_n 1, 1, mi_o), (2, .ifCond .ge 7, 3, mi_o), (5, .iconst 0, 1, mi_o)]), (14, [(6, .goto 4, 3, mi_o), (9, .iconst 1, 1, mi_o), (10, .putfield 11, 3, 5, 0, 0, 0, 130), (13, .aload_n 0, 1, mi_o)]), (100000, [(14, .iload_n 1, 1, mi_o), (15, .putfield 15, 3, 5, 1, 0, 0, 132), (18, .return_, 1, mi_o)])]
noncomputable def mi_c38 : List (Nat × mi_I) := ft_flat ft_38
noncomputable def ft_39 : List (Nat × List (Nat × mi_I)) := [(7, [(0, .aload_n 0, 1, mi_o), (1, .iconst 2, 1, mi_o), (2, .putfield 11, 3, 5, 0, 0, 0, 130), (5, .aload_n 0, 1, mi_o), (6, .iload_n 1, 1, mi_o)]), (15, [(7, .putfield 18, 3, 5, 2, 0, 0, 134), (10, .aload_n 0, 1, mi_o), (11, .iconst 0, 1, mi_o), (12, .iload_n 2, 1, mi_o), (13, .bipush 60, 2, mi_o)]), (26, [(15, .invokestatic 28, 3, 0, 0, 15, 0, 308), (18, .invokestatic 34, 3, 0, 0, 14, 0, 309), (21, .putfield 21, 3, 5, 3, 0, 0, 136), (24, .iconst 0, 1, mi_o), (25, .istore_n 3, 1, mi_o)]), (35, [(26, .iload_n 3, 1, mi_o), (27, .aload_n 0, 1, mi_o), (28, .getfield 21, 3, 5, 3, 0, 0, 136), (31, .if_icmp .ge 16, 3, mi_o), (34, .aload_n 0, 1, mi_o)]), (44, [(35, .getfield 24, 3, 5, 4, 0, 0, 139), (38, .iload_n 3, 1, mi_o), (39, .lconst 0, 1, mi_o), (40, .lastore, 1, mi_o), (41, .iinc 3 1, 3, mi_o)]), (100000, [(44, .goto (-18), 3, mi_o), (47, .return_, 1, mi_o)])]
noncomputable def mi_c39 : List (Nat × mi_I) := ft_flat ft_39
noncomputable def ft_40 : List (Nat × List (Nat × mi_I)) := [(38, [(0, .aload_n 0, 1, mi_o), (1, .getfield 18, 3, 5, 2, 0, 0, 134), (4, .tableswitch 48 0 3 #[32, 37, 42, 46], 32, mi_o), (36, .lload_n 1, 1, mi_o), (37, .l2i, 1, mi_o)]), (43, [(38, .i2b, 1, mi_o), (39, .i2l, 1, mi_o), (40, .lreturn, 1, mi_o), (41, .lload_n 1, 1, mi_o), (42, .l2i, 1, mi_o)]), (48, [(43, .i2s, 1, mi_o), (44, .i2l, 1, mi_o), (45, .lreturn, 1, mi_o), (46, .lload_n 1, 1, mi_o), (47, .l2i, 1, mi_o)]), (53, [(48, .i2l, 1, mi_o), (49, .lreturn, 1, mi_o), (50, .lload_n 1, 1, mi_o), (51, .lreturn, 1, mi_o), (52, .lload_n 1, 1, mi_o)]), (62, [(53, .lconst 0, 1, mi_o), (54, .lcmp, 1, mi_o), (55, .ifCond .eq 7, 3, mi_o), (58, .lconst 1, 1, mi_o), (59, .goto 4, 3, mi_o)]), (100000, [(62, .lconst 0, 1, mi_o), (63, .lreturn, 1, mi_o)])]
noncomputable def mi_c40 : List (Nat × mi_I) := ft_flat ft_40
noncomputable def ft_41 : List (Nat × List (Nat × mi_I)) := [(7, [(0, .aload_n 0, 1, mi_o), (1, .invokespecial 3, 3, 0, 0, 12, 0, 119), (4, .aload_n 0, 1, mi_o), (5, .bipush 120, 2, mi_o)]), (14, [(7, .newarray .int, 2, mi_o), (9, .putfield 9, 3, 6, 0, 0, 0, 122), (12, .aload_n 0, 1, mi_o), (13, .iconst 0, 1, mi_o)]), (22, [(14, .putfield 15, 3, 6, 1, 0, 0, 123), (17, .aload_n 0, 1, mi_o), (18, .iconst 0, 1, mi_o), (19, .putfield 19, 3, 6, 2, 0, 0, 125)]), (28, [(22, .aload_n 0, 1, mi_o), (23, .iconst 0, 1, mi_o), (24, .putfield 22, 3, 6, 3, 0, 0, 126), (27, .aload_n 0, 1, mi_o)]), (38, [(28, .new 26, 3, 3, 0, 3, 0, 120), (31, .dup, 1, mi_o), (32, .invokespecial 28, 3, 15, 0, 10, 0, 121), (35, .putfield 29, 3, 6, 4, 0, 0, 127)]), (100000, [(38, .return_, 1, mi_o)])]
noncomputable def mi_c41 : List (Nat × mi_I) := ft_flat ft_41
noncomputable def ft_42 : List (Nat × List (Nat × mi_I)) := [(9, [(0, .aload_n 0, 1, mi_o), (1, .getfield 15, 3, 6, 1, 0, 0, 123), (4, .bipush 120, 2, mi_o), (6, .if_icmp .ge 23, 3, mi_o)]), (17, [(9, .aload_n 0, 1, mi_o), (10, .getfield 9, 3, 6, 0, 0, 0, 122), (13, .aload_n 0, 1, mi_o), (14, .getfield 15, 3, 6, 1, 0, 0, 123)]), (21, [(17, .iload_n 1, 1, mi_o), (18, .iastore, 1, mi_o), (19, .aload_n 0, 1, mi_o), (20, .dup, 1, mi_o)]), (29, [(21, .getfield 15, 3, 6, 1, 0, 0, 123), (24, .iconst 1, 1, mi_o), (25, .iadd, 1, mi_o), (26, .putfield 15, 3, 6, 1, 0, 0, 123)]), (100000, [(29, .aload_n 0, 1, mi_o), (30, .getfield 15, 3, 6, 1, 0, 0, 123), (33, .ireturn, 1, mi_o)])]
noncomputable def mi_c42 : List (Nat × mi_I) := ft_flat ft_42
noncomputable def ft_43 : List (Nat × List (Nat × mi_I)) := [(6, [(0, .aload_n 0, 1, mi_o), (1, .getfield 29, 3, 6, 4, 0, 0, 127), (4, .astore_n 2, 1, mi_o), (5, .aload_n 0, 1, mi_o)]), (100000, [(6, .aload_n 1, 1, mi_o), (7, .putfield 29, 3, 6, 4, 0, 0, 127), (10, .aload_n 2, 1, mi_o), (11, .areturn, 1, mi_o)])]
noncomputable def mi_c43 : List (Nat × mi_I) := ft_flat ft_43
noncomputable def ft_44 : List (Nat × List (Nat × mi_I)) := [(10, [(0, .aload_n 0, 1, mi_o), (1, .iconst 0, 1, mi_o), (2, .putfield 19, 3, 6, 2, 0, 0, 125), (5, .aload_n 0, 1, mi_o), (6, .iconst 0, 1, mi_o), (7, .putfield 22, 3, 6, 3, 0, 0, 126)]), (22, [(10, .aload_n 0, 1, mi_o), (11, .getfield 29, 3, 6, 4, 0, 0, 127), (14, .invokevirtual 33, 3, 16, 0, 9, 0, 176), (17, .aload_n 0, 1, mi_o), (18, .invokevirtual 36, 3, 48, 0, 9, 0, 177), (21, .iconst 0, 1, mi_o)]), (32, [(22, .istore_n 1, 1, mi_o), (23, .iload_n 1, 1, mi_o), (24, .aload_n 0, 1, mi_o), (25, .getfield 15, 3, 6, 1, 0, 0, 123), (28, .if_icmp .ge 22, 3, mi_o), (31, .aload_n 0, 1, mi_o)]), (47, [(32, .bipush 59, 2, mi_o), (34, .invokevirtual 39, 3, 46, 0, 9, 0, 200), (37, .ifCond .eq 13, 3, mi_o), (40, .aload_n 0, 1, mi_o), (41, .invokevirtual 36, 3, 48, 0, 9, 0, 177), (44, .iinc 1 1, 3, mi_o)]), (61, [(47, .goto (-24), 3, mi_o), (50, .aload_n 0, 1, mi_o), (51, .getfield 22, 3, 6, 3, 0, 0, 126), (54, .ifCond .ne 14, 3, mi_o), (57, .aload_n 0, 1, mi_o), (58, .getfield 19, 3, 6, 2, 0, 0, 125)]), (73, [(61, .aload_n 0, 1, mi_o), (62, .getfield 15, 3, 6, 1, 0, 0, 123), (65, .if_icmp .ge 8, 3, mi_o), (68, .aload_n 0, 1, mi_o), (69, .getfield 19, 3, 6, 2, 0, 0, 125), (72, .ireturn, 1, mi_o)]), (100000, [(73, .aload_n 0, 1, mi_o), (74, .getfield 29, 3, 6, 4, 0, 0, 127), (77, .iconst 1, 1, mi_o), (78, .putfield 43, 3, 3, 0, 0, 0, 22), (81, .iconst (-1), 1, mi_o), (82, .ireturn, 1, mi_o)])]
noncomputable def mi_c44 : List (Nat × mi_I) := ft_flat ft_44
noncomputable def ft_45 : List (Nat × List (Nat × mi_I)) := [(8, [(0, .aload_n 0, 1, mi_o), (1, .getfield 22, 3, 6, 3, 0, 0, 126), (4, .ifCond .ne 33, 3, mi_o), (7, .aload_n 0, 1, mi_o)]), (18, [(8, .getfield 19, 3, 6, 2, 0, 0, 125), (11, .ifCond .lt 26, 3, mi_o), (14, .aload_n 0, 1, mi_o), (15, .getfield 19, 3, 6, 2, 0, 0, 125)]), (26, [(18, .aload_n 0, 1, mi_o), (19, .getfield 15, 3, 6, 1, 0, 0, 123), (22, .if_icmp .ge 15, 3, mi_o), (25, .aload_n 0, 1, mi_o)]), (34, [(26, .getfield 9, 3, 6, 0, 0, 0, 122), (29, .aload_n 0, 1, mi_o), (30, .getfield 19, 3, 6, 2, 0, 0, 125), (33, .iaload, 1, mi_o)]), (100000, [(34, .goto 4, 3, mi_o), (37, .iconst (-1), 1, mi_o), (38, .ireturn, 1, mi_o)])]
noncomputable def mi_c45 : List (Nat × mi_I) := ft_flat ft_45
noncomputable def ft_46 : List (Nat × List (Nat × mi_I)) := [(8, [(0, .aload_n 0, 1, mi_o), (1, .invokevirtual 46, 3, 45, 0, 9, 0, 184), (4, .iload_n 1, 1, mi_o), (5, .if_icmp .eq 5, 3, mi_o)]), (12, [(8, .iconst 0, 1, mi_o), (9, .ireturn, 1, mi_o), (10, .aload_n 0, 1, mi_o), (11, .dup, 1, mi_o)]), (20, [(12, .getfield 19, 3, 6, 2, 0, 0, 125), (15, .iconst 1, 1, mi_o), (16, .iadd, 1, mi_o), (17, .putfield 19, 3, 6, 2, 0, 0, 125)]), (100000, [(20, .iconst 1, 1, mi_o), (21, .ireturn, 1, mi_o)])]
noncomputable def mi_c46 : List (Nat × mi_I) := ft_flat ft_46
noncomputable def ft_47 : List (Nat × List (Nat × mi_I)) := [(6, [(0, .aload_n 0, 1, mi_o), (1, .invokevirtual 46, 3, 45, 0, 9, 0, 184), (4, .istore_n 2, 1, mi_o), (5, .iload_n 2, 1, mi_o)]), (12, [(6, .iconst (-1), 1, mi_o), (7, .if_icmp .eq 12, 3, mi_o), (10, .aload_n 1, 1, mi_o), (11, .iload_n 2, 1, mi_o)]), (20, [(12, .i2c, 1, mi_o), (13, .invokevirtual 50, 3, 228, 0, 9, 0, 190), (16, .ifCond .ge 5, 3, mi_o), (19, .iconst (-1), 1, mi_o)]), (26, [(20, .ireturn, 1, mi_o), (21, .aload_n 0, 1, mi_o), (22, .dup, 1, mi_o), (23, .getfield 19, 3, 6, 2, 0, 0, 125)]), (32, [(26, .iconst 1, 1, mi_o), (27, .iadd, 1, mi_o), (28, .putfield 19, 3, 6, 2, 0, 0, 125), (31, .iload_n 2, 1, mi_o)]), (100000, [(32, .ireturn, 1, mi_o)])]
noncomputable def mi_c47 : List (Nat × mi_I) := ft_flat ft_47
noncomputable def ft_48 : List (Nat × List (Nat × mi_I)) := [(8, [(0, .aload_n 0, 1, mi_o), (1, .iconst 0, 1, mi_o), (2, .invokevirtual 56, 3, 49, 0, 9, 0, 178), (5, .aload_n 0, 1, mi_o), (6, .bipush 63, 2, mi_o)]), (19, [(8, .invokevirtual 39, 3, 46, 0, 9, 0, 200), (11, .ifCond .eq 39, 3, mi_o), (14, .aload_n 0, 1, mi_o), (15, .getfield 29, 3, 6, 4, 0, 0, 127), (18, .iconst 3, 1, mi_o)]), (26, [(19, .iconst 0, 1, mi_o), (20, .invokevirtual 60, 3, 17, 0, 9, 0, 187), (23, .istore_n 1, 1, mi_o), (24, .aload_n 0, 1, mi_o), (25, .iconst 0, 1, mi_o)]), (35, [(26, .invokevirtual 56, 3, 49, 0, 9, 0, 178), (29, .aload_n 0, 1, mi_o), (30, .getfield 29, 3, 6, 4, 0, 0, 127), (33, .iconst 2, 1, mi_o), (34, .iconst 0, 1, mi_o)]), (44, [(35, .invokevirtual 60, 3, 17, 0, 9, 0, 187), (38, .pop, 1, mi_o), (39, .aload_n 0, 1, mi_o), (40, .getfield 29, 3, 6, 4, 0, 0, 127), (43, .iload_n 1, 1, mi_o)]), (55, [(44, .invokevirtual 64, 3, 18, 0, 9, 0, 204), (47, .goto 13, 3, mi_o), (50, .aload_n 0, 1, mi_o), (51, .getfield 29, 3, 6, 4, 0, 0, 127), (54, .iconst 2, 1, mi_o)]), (100000, [(55, .iconst 0, 1, mi_o), (56, .invokevirtual 60, 3, 17, 0, 9, 0, 187), (59, .pop, 1, mi_o), (60, .return_, 1, mi_o)])]
noncomputable def mi_c48 : List (Nat × mi_I) := ft_flat ft_48
noncomputable def ft_49 : List (Nat × List (Nat × mi_I)) := [(7, [(0, .aload_n 0, 1, mi_o), (1, .iload_n 1, 1, mi_o), (2, .invokevirtual 67, 3, 50, 0, 9, 0, 179), (5, .iconst 0, 1, mi_o), (6, .istore_n 2, 1, mi_o)]), (16, [(7, .iload_n 2, 1, mi_o), (8, .aload_n 0, 1, mi_o), (9, .getfield 15, 3, 6, 1, 0, 0, 123), (12, .if_icmp .ge 34, 3, mi_o), (15, .aload_n 0, 1, mi_o)]), (26, [(16, .bipush 124, 2, mi_o), (18, .invokevirtual 39, 3, 46, 0, 9, 0, 200), (21, .ifCond .eq 25, 3, mi_o), (24, .aload_n 0, 1, mi_o), (25, .iload_n 1, 1, mi_o)]), (36, [(26, .invokevirtual 67, 3, 50, 0, 9, 0, 179), (29, .aload_n 0, 1, mi_o), (30, .getfield 29, 3, 6, 4, 0, 0, 127), (33, .bipush 124, 2, mi_o), (35, .iconst 0, 1, mi_o)]), (100000, [(36, .invokevirtual 60, 3, 17, 0, 9, 0, 187), (39, .pop, 1, mi_o), (40, .iinc 2 1, 3, mi_o), (43, .goto (-36), 3, mi_o), (46, .return_, 1, mi_o)])]
noncomputable def mi_c49 : List (Nat × mi_I) := ft_flat ft_49
noncomputable def ft_50 : List (Nat × List (Nat × mi_I)) := [(7, [(0, .aload_n 0, 1, mi_o), (1, .iload_n 1, 1, mi_o), (2, .invokevirtual 70, 3, 51, 0, 9, 0, 180), (5, .iconst 0, 1, mi_o), (6, .istore_n 2, 1, mi_o)]), (16, [(7, .iload_n 2, 1, mi_o), (8, .aload_n 0, 1, mi_o), (9, .getfield 15, 3, 6, 1, 0, 0, 123), (12, .if_icmp .ge 34, 3, mi_o), (15, .aload_n 0, 1, mi_o)]), (26, [(16, .bipush 38, 2, mi_o), (18, .invokevirtual 39, 3, 46, 0, 9, 0, 200), (21, .ifCond .eq 25, 3, mi_o), (24, .aload_n 0, 1, mi_o), (25, .iload_n 1, 1, mi_o)]), (36, [(26, .invokevirtual 70, 3, 51, 0, 9, 0, 180), (29, .aload_n 0, 1, mi_o), (30, .getfield 29, 3, 6, 4, 0, 0, 127), (33, .bipush 38, 2, mi_o), (35, .iconst 0, 1, mi_o)]), (100000, [(36, .invokevirtual 60, 3, 17, 0, 9, 0, 187), (39, .pop, 1, mi_o), (40, .iinc 2 1, 3, mi_o), (43, .goto (-36), 3, mi_o), (46, .return_, 1, mi_o)])]
noncomputable def mi_c50 : List (Nat × mi_I) := ft_flat ft_50
noncomputable def ft_51 : List (Nat × List (Nat × mi_I)) := [(6, [(0, .aload_n 0, 1, mi_o), (1, .iload_n 1, 1, mi_o), (2, .invokevirtual 73, 3, 52, 0, 9, 0, 181), (5, .aload_n 0, 1, mi_o)]), (13, [(6, .ldc 76, 2, 4, 0, 8, 0, 203), (8, .invokevirtual 78, 3, 47, 0, 9, 0, 189), (11, .istore_n 2, 1, mi_o), (12, .iload_n 2, 1, mi_o)]), (19, [(13, .iconst (-1), 1, mi_o), (14, .if_icmp .eq 18, 3, mi_o), (17, .aload_n 0, 1, mi_o), (18, .iload_n 1, 1, mi_o)]), (27, [(19, .invokevirtual 73, 3, 52, 0, 9, 0, 181), (22, .aload_n 0, 1, mi_o), (23, .getfield 29, 3, 6, 4, 0, 0, 127), (26, .iload_n 2, 1, mi_o)]), (100000, [(27, .iconst 0, 1, mi_o), (28, .invokevirtual 60, 3, 17, 0, 9, 0, 187), (31, .pop, 1, mi_o), (32, .return_, 1, mi_o)])]
noncomputable def mi_c51 : List (Nat × mi_I) := ft_flat ft_51
noncomputable def ft_52 : List (Nat × List (Nat × mi_I)) := [(8, [(0, .aload_n 0, 1, mi_o), (1, .iload_n 1, 1, mi_o), (2, .invokevirtual 82, 3, 53, 0, 9, 0, 182), (5, .aload_n 0, 1, mi_o), (6, .ldc 85, 2, 3, 0, 8, 0, 202)]), (15, [(8, .invokevirtual 78, 3, 47, 0, 9, 0, 189), (11, .istore_n 2, 1, mi_o), (12, .iconst 0, 1, mi_o), (13, .istore_n 3, 1, mi_o), (14, .iload_n 3, 1, mi_o)]), (24, [(15, .aload_n 0, 1, mi_o), (16, .getfield 15, 3, 6, 1, 0, 0, 123), (19, .if_icmp .ge 36, 3, mi_o), (22, .iload_n 2, 1, mi_o), (23, .iconst (-1), 1, mi_o)]), (33, [(24, .if_icmp .eq 31, 3, mi_o), (27, .aload_n 0, 1, mi_o), (28, .iload_n 1, 1, mi_o), (29, .invokevirtual 82, 3, 53, 0, 9, 0, 182), (32, .aload_n 0, 1, mi_o)]), (42, [(33, .getfield 29, 3, 6, 4, 0, 0, 127), (36, .iload_n 2, 1, mi_o), (37, .iconst 0, 1, mi_o), (38, .invokevirtual 60, 3, 17, 0, 9, 0, 187), (41, .pop, 1, mi_o)]), (52, [(42, .aload_n 0, 1, mi_o), (43, .ldc 85, 2, 3, 0, 8, 0, 202), (45, .invokevirtual 78, 3, 47, 0, 9, 0, 189), (48, .istore_n 2, 1, mi_o), (49, .iinc 3 1, 3, mi_o)]), (100000, [(52, .goto (-38), 3, mi_o), (55, .return_, 1, mi_o)])]
noncomputable def mi_c52 : List (Nat × mi_I) := ft_flat ft_52
noncomputable def ft_53 : List (Nat × List (Nat × mi_I)) := [(8, [(0, .aload_n 0, 1, mi_o), (1, .iload_n 1, 1, mi_o), (2, .invokevirtual 87, 3, 54, 0, 9, 0, 183), (5, .aload_n 0, 1, mi_o), (6, .ldc 90, 2, 2, 0, 8, 0, 201)]), (15, [(8, .invokevirtual 78, 3, 47, 0, 9, 0, 189), (11, .istore_n 2, 1, mi_o), (12, .iconst 0, 1, mi_o), (13, .istore_n 3, 1, mi_o), (14, .iload_n 3, 1, mi_o)]), (24, [(15, .aload_n 0, 1, mi_o), (16, .getfield 15, 3, 6, 1, 0, 0, 123), (19, .if_icmp .ge 36, 3, mi_o), (22, .iload_n 2, 1, mi_o), (23, .iconst (-1), 1, mi_o)]), (33, [(24, .if_icmp .eq 31, 3, mi_o), (27, .aload_n 0, 1, mi_o), (28, .iload_n 1, 1, mi_o), (29, .invokevirtual 87, 3, 54, 0, 9, 0, 183), (32, .aload_n 0, 1, mi_o)]), (42, [(33, .getfield 29, 3, 6, 4, 0, 0, 127), (36, .iload_n 2, 1, mi_o), (37, .iconst 0, 1, mi_o), (38, .invokevirtual 60, 3, 17, 0, 9, 0, 187), (41, .pop, 1, mi_o)]), (52, [(42, .aload_n 0, 1, mi_o), (43, .ldc 90, 2, 2, 0, 8, 0, 201), (45, .invokevirtual 78, 3, 47, 0, 9, 0, 189), (48, .istore_n 2, 1, mi_o), (49, .iinc 3 1, 3, mi_o)]), (100000, [(52, .goto (-38), 3, mi_o), (55, .return_, 1, mi_o)])]
noncomputable def mi_c53 : List (Nat × mi_I) := ft_flat ft_53
noncomputable def ft_54 : List (Nat × List (Nat × mi_I)) := [(16, [(0, .aload_n 0, 1, mi_o), (1, .invokevirtual 46, 3, 45, 0, 9, 0, 184), (4, .istore_n 2, 1, mi_o), (5, .iload_n 2, 1, mi_o), (6, .invokestatic 92, 3, 56, 0, 9, 0, 185), (9, .ifCond .eq 8, 3, mi_o), (12, .aload_n 0, 1, mi_o), (13, .invokevirtual 95, 3, 55, 0, 9, 0, 186)]), (29, [(16, .return_, 1, mi_o), (17, .aload_n 0, 1, mi_o), (18, .ldc 98, 2, 0, 0, 8, 0, 188), (20, .invokevirtual 78, 3, 47, 0, 9, 0, 189), (23, .istore_n 3, 1, mi_o), (24, .iload_n 3, 1, mi_o), (25, .iconst (-1), 1, mi_o), (26, .if_icmp .eq 20, 3, mi_o)]), (44, [(29, .aload_n 0, 1, mi_o), (30, .getfield 29, 3, 6, 4, 0, 0, 127), (33, .iconst 1, 1, mi_o), (34, .ldc 98, 2, 0, 0, 8, 0, 188), (36, .iload_n 3, 1, mi_o), (37, .i2c, 1, mi_o), (38, .invokevirtual 50, 3, 228, 0, 9, 0, 190), (41, .invokevirtual 60, 3, 17, 0, 9, 0, 187)]), (58, [(44, .pop, 1, mi_o), (45, .return_, 1, mi_o), (46, .iload_n 1, 1, mi_o), (47, .bipush 6, 2, mi_o), (49, .if_icmp .ge 13, 3, mi_o), (52, .aload_n 0, 1, mi_o), (53, .ldc 100, 2, 1, 0, 8, 0, 199), (55, .invokevirtual 78, 3, 47, 0, 9, 0, 189)]), (71, [(58, .iconst (-1), 1, mi_o), (59, .if_icmp .ne 9, 3, mi_o), (62, .aload_n 0, 1, mi_o), (63, .iconst 1, 1, mi_o), (64, .putfield 22, 3, 6, 3, 0, 0, 126), (67, .return_, 1, mi_o), (68, .iload_n 2, 1, mi_o), (69, .bipush 40, 2, mi_o)]), (84, [(71, .if_icmp .ne 25, 3, mi_o), (74, .aload_n 0, 1, mi_o), (75, .iload_n 1, 1, mi_o), (76, .iconst 1, 1, mi_o), (77, .iadd, 1, mi_o), (78, .invokevirtual 56, 3, 49, 0, 9, 0, 178), (81, .aload_n 0, 1, mi_o), (82, .bipush 41, 2, mi_o)]), (98, [(84, .invokevirtual 39, 3, 46, 0, 9, 0, 200), (87, .ifCond .ne 8, 3, mi_o), (90, .aload_n 0, 1, mi_o), (91, .iconst 1, 1, mi_o), (92, .putfield 22, 3, 6, 3, 0, 0, 126), (95, .return_, 1, mi_o), (96, .aload_n 0, 1, mi_o), (97, .iload_n 1, 1, mi_o)]), (113, [(98, .iconst 1, 1, mi_o), (99, .iadd, 1, mi_o), (100, .invokevirtual 87, 3, 54, 0, 9, 0, 183), (103, .aload_n 0, 1, mi_o), (104, .getfield 29, 3, 6, 4, 0, 0, 127), (107, .iload_n 2, 1, mi_o), (108, .bipush 45, 2, mi_o), (110, .if_icmp .ne 8, 3, mi_o)]), (100000, [(113, .bipush 126, 2, mi_o), (115, .goto 4, 3, mi_o), (118, .iload_n 2, 1, mi_o), (119, .iconst 0, 1, mi_o), (120, .invokevirtual 60, 3, 17, 0, 9, 0, 187), (123, .pop, 1, mi_o), (124, .return_, 1, mi_o)])]
noncomputable def mi_c54 : List (Nat × mi_I) := ft_flat ft_54
noncomputable def ft_55 : List (Nat × List (Nat × mi_I)) := [(5, [(0, .iconst 0, 1, mi_o), (1, .istore_n 1, 1, mi_o), (2, .iconst 0, 1, mi_o), (3, .istore_n 2, 1, mi_o), (4, .iload_n 2, 1, mi_o)]), (16, [(5, .iconst 4, 1, mi_o), (6, .if_icmp .ge 42, 3, mi_o), (9, .aload_n 0, 1, mi_o), (10, .invokevirtual 46, 3, 45, 0, 9, 0, 184), (13, .invokestatic 92, 3, 56, 0, 9, 0, 185)]), (24, [(16, .ifCond .eq 32, 3, mi_o), (19, .iload_n 1, 1, mi_o), (20, .bipush 10, 2, mi_o), (22, .imul, 1, mi_o), (23, .aload_n 0, 1, mi_o)]), (32, [(24, .invokevirtual 46, 3, 45, 0, 9, 0, 184), (27, .iadd, 1, mi_o), (28, .bipush 48, 2, mi_o), (30, .isub, 1, mi_o), (31, .istore_n 1, 1, mi_o)]), (39, [(32, .aload_n 0, 1, mi_o), (33, .dup, 1, mi_o), (34, .getfield 19, 3, 6, 2, 0, 0, 125), (37, .iconst 1, 1, mi_o), (38, .iadd, 1, mi_o)]), (52, [(39, .putfield 19, 3, 6, 2, 0, 0, 125), (42, .iinc 2 1, 3, mi_o), (45, .goto (-41), 3, mi_o), (48, .aload_n 0, 1, mi_o), (49, .getfield 29, 3, 6, 4, 0, 0, 127)]), (100000, [(52, .iconst 0, 1, mi_o), (53, .iload_n 1, 1, mi_o), (54, .invokevirtual 60, 3, 17, 0, 9, 0, 187), (57, .pop, 1, mi_o), (58, .return_, 1, mi_o)])]
noncomputable def mi_c55 : List (Nat × mi_I) := ft_flat ft_55
noncomputable def ft_56 : List (Nat × List (Nat × mi_I)) := [(7, [(0, .iload_n 0, 1, mi_o), (1, .bipush 48, 2, mi_o), (3, .if_icmp .lt 13, 3, mi_o), (6, .iload_n 0, 1, mi_o)]), (16, [(7, .bipush 57, 2, mi_o), (9, .if_icmp .gt 7, 3, mi_o), (12, .iconst 1, 1, mi_o), (13, .goto 4, 3, mi_o)]), (100000, [(16, .iconst 0, 1, mi_o), (17, .ireturn, 1, mi_o)])]
noncomputable def mi_c56 : List (Nat × mi_I) := ft_flat ft_56
noncomputable def ft_57 : List (Nat × List (Nat × mi_I)) := [(12, [(0, .aload_n 0, 1, mi_o), (1, .invokespecial 3, 3, 0, 0, 12, 0, 68), (4, .aload_n 0, 1, mi_o), (5, .new 9, 3, 4, 0, 3, 0, 69), (8, .dup, 1, mi_o), (9, .invokespecial 11, 3, 23, 0, 10, 0, 70)]), (24, [(12, .putfield 12, 3, 7, 0, 0, 0, 72), (15, .aload_n 0, 1, mi_o), (16, .bipush 20, 2, mi_o), (18, .newarray .int, 2, mi_o), (20, .putfield 18, 3, 7, 1, 0, 0, 74), (23, .aload_n 0, 1, mi_o)]), (36, [(24, .iconst 0, 1, mi_o), (25, .putfield 22, 3, 7, 2, 0, 0, 75), (28, .aload_n 0, 1, mi_o), (29, .bipush 20, 2, mi_o), (31, .newarray .int, 2, mi_o), (33, .putfield 26, 3, 7, 3, 0, 0, 77)]), (47, [(36, .aload_n 0, 1, mi_o), (37, .bipush 20, 2, mi_o), (39, .newarray .int, 2, mi_o), (41, .putfield 29, 3, 7, 4, 0, 0, 79), (44, .aload_n 0, 1, mi_o), (45, .bipush 20, 2, mi_o)]), (58, [(47, .newarray .int, 2, mi_o), (49, .putfield 32, 3, 7, 5, 0, 0, 81), (52, .aload_n 0, 1, mi_o), (53, .iconst 0, 1, mi_o), (54, .putfield 35, 3, 7, 6, 0, 0, 83), (57, .aload_n 0, 1, mi_o)]), (69, [(58, .iconst 5, 1, mi_o), (59, .newarray .int, 2, mi_o), (61, .putfield 38, 3, 7, 7, 0, 0, 85), (64, .aload_n 0, 1, mi_o), (65, .bipush 32, 2, mi_o), (67, .newarray .int, 2, mi_o)]), (84, [(69, .putfield 41, 3, 7, 8, 0, 0, 87), (72, .aload_n 0, 1, mi_o), (73, .bipush 8, 2, mi_o), (75, .bipush 8, 2, mi_o), (77, .multianewarray 44 2, 4, 0, 0, 5, 0, 71), (81, .putfield 46, 3, 7, 9, 0, 0, 89)]), (100000, [(84, .return_, 1, mi_o)])]
noncomputable def mi_c57 : List (Nat × mi_I) := ft_flat ft_57
noncomputable def ft_58 : List (Nat × List (Nat × mi_I)) := [(8, [(0, .aload_n 0, 1, mi_o), (1, .iconst 0, 1, mi_o), (2, .putfield 22, 3, 7, 2, 0, 0, 75), (5, .iconst 0, 1, mi_o), (6, .istore_n 3, 1, mi_o), (7, .iload_n 3, 1, mi_o)]), (21, [(8, .aload_n 1, 1, mi_o), (9, .getfield 49, 3, 5, 3, 0, 0, 137), (12, .if_icmp .ge 51, 3, mi_o), (15, .iload_n 3, 1, mi_o), (16, .bipush 20, 2, mi_o), (18, .if_icmp .ge 45, 3, mi_o)]), (30, [(21, .aload_n 1, 1, mi_o), (22, .getfield 52, 3, 5, 4, 0, 0, 140), (25, .iload_n 3, 1, mi_o), (26, .laload, 1, mi_o), (27, .l2i, 1, mi_o), (28, .istore 4, 2, mi_o)]), (42, [(30, .iload 4, 2, mi_o), (32, .ifCond .lt 9, 3, mi_o), (35, .iload 4, 2, mi_o), (37, .iload_n 2, 1, mi_o), (38, .if_icmp .lt 4, 3, mi_o), (41, .return_, 1, mi_o)]), (51, [(42, .aload_n 0, 1, mi_o), (43, .getfield 18, 3, 7, 1, 0, 0, 74), (46, .iload_n 3, 1, mi_o), (47, .iload 4, 2, mi_o), (49, .iastore, 1, mi_o), (50, .aload_n 0, 1, mi_o)]), (63, [(51, .iload_n 3, 1, mi_o), (52, .iconst 1, 1, mi_o), (53, .iadd, 1, mi_o), (54, .putfield 22, 3, 7, 2, 0, 0, 75), (57, .iinc 3 1, 3, mi_o), (60, .goto (-53), 3, mi_o)]), (100000, [(63, .return_, 1, mi_o)])]
noncomputable def mi_c58 : List (Nat × mi_I) := ft_flat ft_58
noncomputable def ft_59 : List (Nat × List (Nat × mi_I)) := [(8, [(0, .aload_n 0, 1, mi_o), (1, .getfield 12, 3, 7, 0, 0, 0, 72), (4, .aload_n 1, 1, mi_o), (5, .invokevirtual 56, 3, 34, 0, 9, 0, 212)]), (100000, [(8, .aload_n 0, 1, mi_o), (9, .invokevirtual 60, 3, 60, 0, 9, 0, 219), (12, .return_, 1, mi_o)])]
noncomputable def mi_c59 : List (Nat × mi_I) := ft_flat ft_59
noncomputable def ft_60 : List (Nat × List (Nat × mi_I)) := [(10, [(0, .iconst 0, 1, mi_o), (1, .istore_n 1, 1, mi_o), (2, .iload_n 1, 1, mi_o), (3, .aload_n 0, 1, mi_o), (4, .getfield 22, 3, 7, 2, 0, 0, 75), (7, .if_icmp .ge 60, 3, mi_o)]), (21, [(10, .iload_n 1, 1, mi_o), (11, .bipush 20, 2, mi_o), (13, .if_icmp .ge 54, 3, mi_o), (16, .aload_n 0, 1, mi_o), (17, .getfield 29, 3, 7, 4, 0, 0, 79), (20, .iload_n 1, 1, mi_o)]), (31, [(21, .aload_n 0, 1, mi_o), (22, .getfield 12, 3, 7, 0, 0, 0, 72), (25, .aload_n 0, 1, mi_o), (26, .getfield 18, 3, 7, 1, 0, 0, 74), (29, .iload_n 1, 1, mi_o), (30, .iaload, 1, mi_o)]), (41, [(31, .invokevirtual 63, 3, 29, 0, 9, 0, 220), (34, .iastore, 1, mi_o), (35, .aload_n 0, 1, mi_o), (36, .getfield 26, 3, 7, 3, 0, 0, 77), (39, .iload_n 1, 1, mi_o), (40, .aload_n 0, 1, mi_o)]), (53, [(41, .getfield 12, 3, 7, 0, 0, 0, 72), (44, .getfield 67, 3, 4, 14, 0, 0, 61), (47, .iastore, 1, mi_o), (48, .aload_n 0, 1, mi_o), (49, .getfield 32, 3, 7, 5, 0, 0, 81), (52, .iload_n 1, 1, mi_o)]), (67, [(53, .aload_n 0, 1, mi_o), (54, .getfield 12, 3, 7, 0, 0, 0, 72), (57, .getfield 70, 3, 4, 16, 0, 0, 64), (60, .iastore, 1, mi_o), (61, .iinc 1 1, 3, mi_o), (64, .goto (-62), 3, mi_o)]), (100000, [(67, .return_, 1, mi_o)])]
noncomputable def mi_c60 : List (Nat × mi_I) := ft_flat ft_60
noncomputable def ft_61 : List (Nat × List (Nat × mi_I)) := [(8, [(0, .aload_n 0, 1, mi_o), (1, .getfield 12, 3, 7, 0, 0, 0, 72), (4, .aload_n 1, 1, mi_o), (5, .invokevirtual 56, 3, 34, 0, 9, 0, 212)]), (12, [(8, .iconst 0, 1, mi_o), (9, .istore_n 3, 1, mi_o), (10, .iload_n 3, 1, mi_o), (11, .iload_n 2, 1, mi_o)]), (20, [(12, .if_icmp .ge 24, 3, mi_o), (15, .iload_n 3, 1, mi_o), (16, .ifCond .le 10, 3, mi_o), (19, .aload_n 0, 1, mi_o)]), (30, [(20, .getfield 12, 3, 7, 0, 0, 0, 72), (23, .invokevirtual 72, 3, 32, 0, 9, 0, 232), (26, .aload_n 0, 1, mi_o), (27, .invokevirtual 60, 3, 60, 0, 9, 0, 219)]), (100000, [(30, .iinc 3 1, 3, mi_o), (33, .goto (-23), 3, mi_o), (36, .return_, 1, mi_o)])]
noncomputable def mi_c61 : List (Nat × mi_I) := ft_flat ft_61
noncomputable def ft_62 : List (Nat × List (Nat × mi_I)) := [(8, [(0, .aload_n 0, 1, mi_o), (1, .getfield 12, 3, 7, 0, 0, 0, 72), (4, .iload_n 1, 1, mi_o), (5, .invokevirtual 75, 3, 24, 0, 9, 0, 234)]), (18, [(8, .ifCond .eq 15, 3, mi_o), (11, .aload_n 0, 1, mi_o), (12, .getfield 12, 3, 7, 0, 0, 0, 72), (15, .getfield 79, 3, 4, 1, 0, 0, 38)]), (24, [(18, .iload_n 1, 1, mi_o), (19, .iaload, 1, mi_o), (20, .goto 12, 3, mi_o), (23, .aload_n 0, 1, mi_o)]), (32, [(24, .getfield 12, 3, 7, 0, 0, 0, 72), (27, .getfield 82, 3, 4, 12, 0, 0, 55), (30, .iconst 2, 1, mi_o), (31, .iaload, 1, mi_o)]), (100000, [(32, .ireturn, 1, mi_o)])]
noncomputable def mi_c62 : List (Nat × mi_I) := ft_flat ft_62
noncomputable def ft_63 : List (Nat × List (Nat × mi_I)) := [(9, [(0, .aload_n 0, 1, mi_o), (1, .getfield 12, 3, 7, 0, 0, 0, 72), (4, .aload_n 1, 1, mi_o), (5, .invokevirtual 56, 3, 34, 0, 9, 0, 212), (8, .iconst 0, 1, mi_o)]), (18, [(9, .istore_n 3, 1, mi_o), (10, .iload_n 3, 1, mi_o), (11, .aload_n 0, 1, mi_o), (12, .getfield 22, 3, 7, 2, 0, 0, 75), (15, .if_icmp .ge 29, 3, mi_o)]), (28, [(18, .iload_n 3, 1, mi_o), (19, .bipush 20, 2, mi_o), (21, .if_icmp .ge 23, 3, mi_o), (24, .aload_n 0, 1, mi_o), (25, .getfield 12, 3, 7, 0, 0, 0, 72)]), (37, [(28, .aload_n 0, 1, mi_o), (29, .getfield 18, 3, 7, 1, 0, 0, 74), (32, .iload_n 3, 1, mi_o), (33, .iaload, 1, mi_o), (34, .invokevirtual 63, 3, 29, 0, 9, 0, 220)]), (48, [(37, .pop, 1, mi_o), (38, .iinc 3 1, 3, mi_o), (41, .goto (-31), 3, mi_o), (44, .aload_n 0, 1, mi_o), (45, .getfield 12, 3, 7, 0, 0, 0, 72)]), (100000, [(48, .iload_n 2, 1, mi_o), (49, .iconst 0, 1, mi_o), (50, .invokevirtual 85, 3, 27, 0, 9, 0, 240), (53, .ireturn, 1, mi_o)])]
noncomputable def mi_c63 : List (Nat × mi_I) := ft_flat ft_63
noncomputable def ft_64 : List (Nat × List (Nat × mi_I)) := [(6, [(0, .aload_n 0, 1, mi_o), (1, .getfield 18, 3, 7, 1, 0, 0, 74), (4, .iload_n 1, 1, mi_o), (5, .iaload, 1, mi_o)]), (12, [(6, .istore_n 3, 1, mi_o), (7, .aload_n 0, 1, mi_o), (8, .getfield 18, 3, 7, 1, 0, 0, 74), (11, .iload_n 1, 1, mi_o)]), (18, [(12, .aload_n 0, 1, mi_o), (13, .getfield 18, 3, 7, 1, 0, 0, 74), (16, .iload_n 2, 1, mi_o), (17, .iaload, 1, mi_o)]), (24, [(18, .iastore, 1, mi_o), (19, .aload_n 0, 1, mi_o), (20, .getfield 18, 3, 7, 1, 0, 0, 74), (23, .iload_n 2, 1, mi_o)]), (100000, [(24, .iload_n 3, 1, mi_o), (25, .iastore, 1, mi_o), (26, .return_, 1, mi_o)])]
noncomputable def mi_c64 : List (Nat × mi_I) := ft_flat ft_64
noncomputable def ft_65 : List (Nat × List (Nat × mi_I)) := [(10, [(0, .aload_n 0, 1, mi_o), (1, .getfield 22, 3, 7, 2, 0, 0, 75), (4, .bipush 20, 2, mi_o), (6, .if_icmp .ge 53, 3, mi_o), (9, .iload_n 1, 1, mi_o)]), (21, [(10, .ifCond .lt 49, 3, mi_o), (13, .iload_n 1, 1, mi_o), (14, .aload_n 0, 1, mi_o), (15, .getfield 22, 3, 7, 2, 0, 0, 75), (18, .if_icmp .gt 41, 3, mi_o)]), (30, [(21, .aload_n 0, 1, mi_o), (22, .getfield 18, 3, 7, 1, 0, 0, 74), (25, .iload_n 1, 1, mi_o), (26, .aload_n 0, 1, mi_o), (27, .getfield 18, 3, 7, 1, 0, 0, 74)]), (37, [(30, .iload_n 1, 1, mi_o), (31, .iconst 1, 1, mi_o), (32, .iadd, 1, mi_o), (33, .aload_n 0, 1, mi_o), (34, .getfield 22, 3, 7, 2, 0, 0, 75)]), (46, [(37, .iload_n 1, 1, mi_o), (38, .isub, 1, mi_o), (39, .invokestatic 89, 3, 0, 0, 11, 0, 238), (42, .aload_n 0, 1, mi_o), (43, .getfield 18, 3, 7, 1, 0, 0, 74)]), (51, [(46, .iload_n 1, 1, mi_o), (47, .iload_n 2, 1, mi_o), (48, .iastore, 1, mi_o), (49, .aload_n 0, 1, mi_o), (50, .dup, 1, mi_o)]), (100000, [(51, .getfield 22, 3, 7, 2, 0, 0, 75), (54, .iconst 1, 1, mi_o), (55, .iadd, 1, mi_o), (56, .putfield 22, 3, 7, 2, 0, 0, 75), (59, .return_, 1, mi_o)])]
noncomputable def mi_c65 : List (Nat × mi_I) := ft_flat ft_65
noncomputable def ft_66 : List (Nat × List (Nat × mi_I)) := [(8, [(0, .iconst 0, 1, mi_o), (1, .istore_n 3, 1, mi_o), (2, .aload_n 0, 1, mi_o), (3, .iconst (-1), 1, mi_o), (4, .putfield 35, 3, 7, 6, 0, 0, 83), (7, .aload_n 0, 1, mi_o)]), (18, [(8, .iconst 0, 1, mi_o), (9, .iload_n 2, 1, mi_o), (10, .invokevirtual 95, 3, 65, 0, 9, 0, 237), (13, .iconst 0, 1, mi_o), (14, .istore 4, 2, mi_o), (16, .iload 4, 2, mi_o)]), (28, [(18, .aload_n 0, 1, mi_o), (19, .getfield 22, 3, 7, 2, 0, 0, 75), (22, .if_icmp .ge 56, 3, mi_o), (25, .aload_n 0, 1, mi_o), (26, .aload_n 1, 1, mi_o), (27, .iload_n 2, 1, mi_o)]), (42, [(28, .invokevirtual 99, 3, 63, 0, 9, 0, 239), (31, .istore 5, 2, mi_o), (33, .iload 5, 2, mi_o), (35, .aload_n 0, 1, mi_o), (36, .getfield 35, 3, 7, 6, 0, 0, 83), (39, .if_icmp .le 12, 3, mi_o)]), (53, [(42, .aload_n 0, 1, mi_o), (43, .iload 5, 2, mi_o), (45, .putfield 35, 3, 7, 6, 0, 0, 83), (48, .iload 4, 2, mi_o), (50, .istore_n 3, 1, mi_o), (51, .iload 4, 2, mi_o)]), (63, [(53, .iconst 1, 1, mi_o), (54, .iadd, 1, mi_o), (55, .aload_n 0, 1, mi_o), (56, .getfield 22, 3, 7, 2, 0, 0, 75), (59, .if_icmp .ge 13, 3, mi_o), (62, .aload_n 0, 1, mi_o)]), (75, [(63, .iload 4, 2, mi_o), (65, .iload 4, 2, mi_o), (67, .iconst 1, 1, mi_o), (68, .iadd, 1, mi_o), (69, .invokevirtual 103, 3, 64, 0, 9, 0, 241), (72, .iinc 4 1, 3, mi_o)]), (100000, [(75, .goto (-59), 3, mi_o), (78, .iload_n 3, 1, mi_o), (79, .ireturn, 1, mi_o)])]
noncomputable def mi_c66 : List (Nat × mi_I) := ft_flat ft_66
noncomputable def ft_67 : List (Nat × List (Nat × mi_I)) := [(9, [(0, .iconst 0, 1, mi_o), (1, .istore 4, 2, mi_o), (3, .aload_n 0, 1, mi_o), (4, .iconst (-1), 1, mi_o), (5, .putfield 35, 3, 7, 6, 0, 0, 83), (8, .aload_n 0, 1, mi_o)]), (19, [(9, .iload_n 2, 1, mi_o), (10, .iconst 0, 1, mi_o), (11, .invokevirtual 95, 3, 65, 0, 9, 0, 237), (14, .iconst 0, 1, mi_o), (15, .istore 5, 2, mi_o), (17, .iload 5, 2, mi_o)]), (31, [(19, .aload_n 1, 1, mi_o), (20, .getfield 106, 3, 4, 0, 0, 0, 36), (23, .if_icmp .ge 44, 3, mi_o), (26, .aload_n 0, 1, mi_o), (27, .getfield 18, 3, 7, 1, 0, 0, 74), (30, .iload_n 2, 1, mi_o)]), (40, [(31, .iload 5, 2, mi_o), (33, .iastore, 1, mi_o), (34, .aload_n 0, 1, mi_o), (35, .aload_n 1, 1, mi_o), (36, .iload_n 3, 1, mi_o), (37, .invokevirtual 99, 3, 63, 0, 9, 0, 239)]), (52, [(40, .istore 6, 2, mi_o), (42, .iload 6, 2, mi_o), (44, .aload_n 0, 1, mi_o), (45, .getfield 35, 3, 7, 6, 0, 0, 83), (48, .if_icmp .le 13, 3, mi_o), (51, .aload_n 0, 1, mi_o)]), (67, [(52, .iload 6, 2, mi_o), (54, .putfield 35, 3, 7, 6, 0, 0, 83), (57, .iload 5, 2, mi_o), (59, .istore 4, 2, mi_o), (61, .iinc 5 1, 3, mi_o), (64, .goto (-47), 3, mi_o)]), (100000, [(67, .iload 4, 2, mi_o), (69, .ireturn, 1, mi_o)])]
noncomputable def mi_c67 : List (Nat × mi_I) := ft_flat ft_67
noncomputable def ft_68 : List (Nat × List (Nat × mi_I)) := [(7, [(0, .bipush (-2), 2, mi_o), (2, .istore_n 3, 1, mi_o), (3, .aload_n 0, 1, mi_o), (4, .aload_n 0, 1, mi_o), (5, .aload_n 1, 1, mi_o), (6, .iload_n 2, 1, mi_o)]), (19, [(7, .invokevirtual 99, 3, 63, 0, 9, 0, 239), (10, .putfield 35, 3, 7, 6, 0, 0, 83), (13, .iconst 0, 1, mi_o), (14, .istore 4, 2, mi_o), (16, .iload 4, 2, mi_o), (18, .iconst 1, 1, mi_o)]), (30, [(19, .iadd, 1, mi_o), (20, .aload_n 0, 1, mi_o), (21, .getfield 22, 3, 7, 2, 0, 0, 75), (24, .if_icmp .ge 55, 3, mi_o), (27, .aload_n 0, 1, mi_o), (28, .iload 4, 2, mi_o)]), (39, [(30, .iload 4, 2, mi_o), (32, .iconst 1, 1, mi_o), (33, .iadd, 1, mi_o), (34, .invokevirtual 103, 3, 64, 0, 9, 0, 241), (37, .aload_n 0, 1, mi_o), (38, .aload_n 1, 1, mi_o)]), (50, [(39, .iload_n 2, 1, mi_o), (40, .invokevirtual 99, 3, 63, 0, 9, 0, 239), (43, .istore 5, 2, mi_o), (45, .aload_n 0, 1, mi_o), (46, .iload 4, 2, mi_o), (48, .iload 4, 2, mi_o)]), (61, [(50, .iconst 1, 1, mi_o), (51, .iadd, 1, mi_o), (52, .invokevirtual 103, 3, 64, 0, 9, 0, 241), (55, .iload 5, 2, mi_o), (57, .aload_n 0, 1, mi_o), (58, .getfield 35, 3, 7, 6, 0, 0, 83)]), (73, [(61, .if_icmp .le 12, 3, mi_o), (64, .aload_n 0, 1, mi_o), (65, .iload 5, 2, mi_o), (67, .putfield 35, 3, 7, 6, 0, 0, 83), (70, .iload 4, 2, mi_o), (72, .istore_n 3, 1, mi_o)]), (100000, [(73, .iinc 4 1, 3, mi_o), (76, .goto (-60), 3, mi_o), (79, .iload_n 3, 1, mi_o), (80, .ireturn, 1, mi_o)])]
noncomputable def mi_c68 : List (Nat × mi_I) := ft_flat ft_68
noncomputable def ft_69 : List (Nat × List (Nat × mi_I)) := [(15, [(0, .aload_n 0, 1, mi_o), (1, .iconst 0, 1, mi_o), (2, .putfield 22, 3, 7, 2, 0, 0, 75), (5, .iconst 0, 1, mi_o), (6, .istore 4, 2, mi_o), (8, .iload 4, 2, mi_o), (10, .bipush 8, 2, mi_o), (12, .if_icmp .ge 48, 3, mi_o)]), (28, [(15, .aload_n 0, 1, mi_o), (16, .getfield 22, 3, 7, 2, 0, 0, 75), (19, .iconst 5, 1, mi_o), (20, .if_icmp .ge 40, 3, mi_o), (23, .iload_n 2, 1, mi_o), (24, .iload 4, 2, mi_o), (26, .ishr, 1, mi_o), (27, .iconst 1, 1, mi_o)]), (43, [(28, .iand, 1, mi_o), (29, .iconst 1, 1, mi_o), (30, .if_icmp .ne 24, 3, mi_o), (33, .aload_n 0, 1, mi_o), (34, .getfield 18, 3, 7, 1, 0, 0, 74), (37, .aload_n 0, 1, mi_o), (38, .getfield 22, 3, 7, 2, 0, 0, 75), (41, .iload 4, 2, mi_o)]), (57, [(43, .iastore, 1, mi_o), (44, .aload_n 0, 1, mi_o), (45, .dup, 1, mi_o), (46, .getfield 22, 3, 7, 2, 0, 0, 75), (49, .iconst 1, 1, mi_o), (50, .iadd, 1, mi_o), (51, .putfield 22, 3, 7, 2, 0, 0, 75), (54, .iinc 4 1, 3, mi_o)]), (71, [(57, .goto (-49), 3, mi_o), (60, .aload_n 0, 1, mi_o), (61, .iconst (-1), 1, mi_o), (62, .putfield 35, 3, 7, 6, 0, 0, 83), (65, .iconst 1, 1, mi_o), (66, .istore 4, 2, mi_o), (68, .iconst 0, 1, mi_o), (69, .istore 5, 2, mi_o)]), (86, [(71, .iload 5, 2, mi_o), (73, .bipush 120, 2, mi_o), (75, .if_icmp .ge 60, 3, mi_o), (78, .iload 4, 2, mi_o), (80, .ifCond .eq 55, 3, mi_o), (83, .aload_n 0, 1, mi_o), (84, .aload_n 1, 1, mi_o), (85, .iload_n 3, 1, mi_o)]), (103, [(86, .invokevirtual 99, 3, 63, 0, 9, 0, 239), (89, .istore 6, 2, mi_o), (91, .iload 6, 2, mi_o), (93, .aload_n 0, 1, mi_o), (94, .getfield 35, 3, 7, 6, 0, 0, 83), (97, .if_icmp .le 26, 3, mi_o), (100, .aload_n 0, 1, mi_o), (101, .iload 6, 2, mi_o)]), (117, [(103, .putfield 35, 3, 7, 6, 0, 0, 83), (106, .aload_n 0, 1, mi_o), (107, .getfield 18, 3, 7, 1, 0, 0, 74), (110, .iconst 0, 1, mi_o), (111, .aload_n 0, 1, mi_o), (112, .getfield 38, 3, 7, 7, 0, 0, 85), (115, .iconst 0, 1, mi_o), (116, .aload_n 0, 1, mi_o)]), (100000, [(117, .getfield 22, 3, 7, 2, 0, 0, 75), (120, .invokestatic 89, 3, 0, 0, 11, 0, 238), (123, .aload_n 0, 1, mi_o), (124, .invokevirtual 109, 3, 70, 0, 9, 0, 252), (127, .istore 4, 2, mi_o), (129, .iinc 5 1, 3, mi_o), (132, .goto (-61), 3, mi_o), (135, .return_, 1, mi_o)])]
noncomputable def mi_c69 : List (Nat × mi_I) := ft_flat ft_69
noncomputable def ft_70 : List (Nat × List (Nat × mi_I)) := [(12, [(0, .aload_n 0, 1, mi_o), (1, .getfield 22, 3, 7, 2, 0, 0, 75), (4, .iconst 2, 1, mi_o), (5, .isub, 1, mi_o), (6, .istore_n 1, 1, mi_o), (7, .iload_n 1, 1, mi_o), (8, .ifCond .lt 26, 3, mi_o), (11, .aload_n 0, 1, mi_o)]), (24, [(12, .getfield 18, 3, 7, 1, 0, 0, 74), (15, .iload_n 1, 1, mi_o), (16, .iaload, 1, mi_o), (17, .aload_n 0, 1, mi_o), (18, .getfield 18, 3, 7, 1, 0, 0, 74), (21, .iload_n 1, 1, mi_o), (22, .iconst 1, 1, mi_o), (23, .iadd, 1, mi_o)]), (40, [(24, .iaload, 1, mi_o), (25, .if_icmp .lt 9, 3, mi_o), (28, .iinc 1 (-1), 3, mi_o), (31, .goto (-24), 3, mi_o), (34, .iload_n 1, 1, mi_o), (35, .ifCond .ge 5, 3, mi_o), (38, .iconst 0, 1, mi_o), (39, .ireturn, 1, mi_o)]), (52, [(40, .aload_n 0, 1, mi_o), (41, .getfield 22, 3, 7, 2, 0, 0, 75), (44, .iconst 1, 1, mi_o), (45, .isub, 1, mi_o), (46, .istore_n 2, 1, mi_o), (47, .iload_n 2, 1, mi_o), (48, .iload_n 1, 1, mi_o), (49, .if_icmp .le 24, 3, mi_o)]), (64, [(52, .aload_n 0, 1, mi_o), (53, .getfield 18, 3, 7, 1, 0, 0, 74), (56, .iload_n 2, 1, mi_o), (57, .iaload, 1, mi_o), (58, .aload_n 0, 1, mi_o), (59, .getfield 18, 3, 7, 1, 0, 0, 74), (62, .iload_n 1, 1, mi_o), (63, .iaload, 1, mi_o)]), (80, [(64, .if_icmp .gt 9, 3, mi_o), (67, .iinc 2 (-1), 3, mi_o), (70, .goto (-23), 3, mi_o), (73, .aload_n 0, 1, mi_o), (74, .iload_n 1, 1, mi_o), (75, .iload_n 2, 1, mi_o), (76, .invokevirtual 103, 3, 64, 0, 9, 0, 241), (79, .aload_n 0, 1, mi_o)]), (91, [(80, .getfield 22, 3, 7, 2, 0, 0, 75), (83, .iconst 1, 1, mi_o), (84, .isub, 1, mi_o), (85, .istore_n 3, 1, mi_o), (86, .iload_n 1, 1, mi_o), (87, .iconst 1, 1, mi_o), (88, .iadd, 1, mi_o), (89, .istore 4, 2, mi_o)]), (107, [(91, .iload 4, 2, mi_o), (93, .iload_n 3, 1, mi_o), (94, .if_icmp .ge 19, 3, mi_o), (97, .aload_n 0, 1, mi_o), (98, .iload 4, 2, mi_o), (100, .iload_n 3, 1, mi_o), (101, .invokevirtual 103, 3, 64, 0, 9, 0, 241), (104, .iinc 3 (-1), 3, mi_o)]), (100000, [(107, .iinc 4 1, 3, mi_o), (110, .goto (-19), 3, mi_o), (113, .iconst 1, 1, mi_o), (114, .ireturn, 1, mi_o)])]
noncomputable def mi_c70 : List (Nat × mi_I) := ft_flat ft_70
noncomputable def ft_71 : List (Nat × List (Nat × mi_I)) := [(16, [(0, .iconst 0, 1, mi_o), (1, .istore_n 1, 1, mi_o), (2, .iload_n 1, 1, mi_o), (3, .bipush 8, 2, mi_o), (5, .if_icmp .ge 57, 3, mi_o), (8, .iconst 0, 1, mi_o), (9, .istore_n 2, 1, mi_o), (10, .iload_n 2, 1, mi_o), (11, .bipush 8, 2, mi_o), (13, .if_icmp .ge 43, 3, mi_o)]), (32, [(16, .aload_n 0, 1, mi_o), (17, .getfield 46, 3, 7, 9, 0, 0, 89), (20, .iload_n 1, 1, mi_o), (21, .aaload, 1, mi_o), (22, .iload_n 2, 1, mi_o), (23, .iload_n 1, 1, mi_o), (24, .iload_n 2, 1, mi_o), (25, .if_icmp .eq 21, 3, mi_o), (28, .aload_n 0, 1, mi_o), (29, .getfield 12, 3, 7, 0, 0, 0, 72)]), (50, [(32, .getfield 113, 3, 4, 13, 0, 0, 58), (35, .iload_n 1, 1, mi_o), (36, .aaload, 1, mi_o), (37, .iload_n 2, 1, mi_o), (38, .iaload, 1, mi_o), (39, .ifCond .le 7, 3, mi_o), (42, .iconst 1, 1, mi_o), (43, .goto 6, 3, mi_o), (46, .sipush 1000, 3, mi_o), (49, .iastore, 1, mi_o)]), (71, [(50, .iinc 2 1, 3, mi_o), (53, .goto (-43), 3, mi_o), (56, .iinc 1 1, 3, mi_o), (59, .goto (-57), 3, mi_o), (62, .iconst 0, 1, mi_o), (63, .istore_n 1, 1, mi_o), (64, .iload_n 1, 1, mi_o), (65, .bipush 8, 2, mi_o), (67, .if_icmp .ge 73, 3, mi_o), (70, .iconst 0, 1, mi_o)]), (87, [(71, .istore_n 2, 1, mi_o), (72, .iload_n 2, 1, mi_o), (73, .bipush 8, 2, mi_o), (75, .if_icmp .ge 59, 3, mi_o), (78, .iconst 0, 1, mi_o), (79, .istore_n 3, 1, mi_o), (80, .iload_n 3, 1, mi_o), (81, .bipush 8, 2, mi_o), (83, .if_icmp .ge 45, 3, mi_o), (86, .aload_n 0, 1, mi_o)]), (101, [(87, .getfield 46, 3, 7, 9, 0, 0, 89), (90, .iload_n 2, 1, mi_o), (91, .aaload, 1, mi_o), (92, .iload_n 3, 1, mi_o), (93, .aload_n 0, 1, mi_o), (94, .getfield 46, 3, 7, 9, 0, 0, 89), (97, .iload_n 2, 1, mi_o), (98, .aaload, 1, mi_o), (99, .iload_n 3, 1, mi_o), (100, .iaload, 1, mi_o)]), (115, [(101, .aload_n 0, 1, mi_o), (102, .getfield 46, 3, 7, 9, 0, 0, 89), (105, .iload_n 2, 1, mi_o), (106, .aaload, 1, mi_o), (107, .iload_n 1, 1, mi_o), (108, .iaload, 1, mi_o), (109, .aload_n 0, 1, mi_o), (110, .getfield 46, 3, 7, 9, 0, 0, 89), (113, .iload_n 1, 1, mi_o), (114, .aaload, 1, mi_o)]), (137, [(115, .iload_n 3, 1, mi_o), (116, .iaload, 1, mi_o), (117, .iadd, 1, mi_o), (118, .invokestatic 116, 3, 0, 0, 15, 0, 257), (121, .iastore, 1, mi_o), (122, .iinc 3 1, 3, mi_o), (125, .goto (-45), 3, mi_o), (128, .iinc 2 1, 3, mi_o), (131, .goto (-59), 3, mi_o), (134, .iinc 1 1, 3, mi_o)]), (154, [(137, .goto (-73), 3, mi_o), (140, .sipush 1000, 3, mi_o), (143, .istore_n 1, 1, mi_o), (144, .iconst 0, 1, mi_o), (145, .istore_n 2, 1, mi_o), (146, .iload_n 2, 1, mi_o), (147, .bipush 8, 2, mi_o), (149, .if_icmp .ge 22, 3, mi_o), (152, .iload_n 1, 1, mi_o), (153, .aload_n 0, 1, mi_o)]), (172, [(154, .getfield 46, 3, 7, 9, 0, 0, 89), (157, .iload_n 2, 1, mi_o), (158, .aaload, 1, mi_o), (159, .iload_n 2, 1, mi_o), (160, .iaload, 1, mi_o), (161, .invokestatic 116, 3, 0, 0, 15, 0, 257), (164, .istore_n 1, 1, mi_o), (165, .iinc 2 1, 3, mi_o), (168, .goto (-22), 3, mi_o), (171, .iload_n 1, 1, mi_o)]), (100000, [(172, .sipush 1000, 3, mi_o), (175, .if_icmp .ge 7, 3, mi_o), (178, .iload_n 1, 1, mi_o), (179, .goto 5, 3, mi_o), (182, .bipush (-2), 2, mi_o), (184, .ireturn, 1, mi_o)])]
noncomputable def mi_c71 : List (Nat × mi_I) := ft_flat ft_71
noncomputable def ft_72 : List (Nat × List (Nat × mi_I)) := [(6, [(0, .bipush (-2), 2, mi_o), (2, .istore_n 2, 1, mi_o), (3, .iconst 0, 1, mi_o), (4, .istore_n 3, 1, mi_o), (5, .iconst 0, 1, mi_o)]), (17, [(6, .istore 4, 2, mi_o), (8, .iload 4, 2, mi_o), (10, .aload_n 1, 1, mi_o), (11, .getfield 106, 3, 4, 0, 0, 0, 36), (14, .if_icmp .ge 47, 3, mi_o)]), (27, [(17, .aload_n 0, 1, mi_o), (18, .getfield 12, 3, 7, 0, 0, 0, 72), (21, .getfield 79, 3, 4, 1, 0, 0, 38), (24, .iload 4, 2, mi_o), (26, .iaload, 1, mi_o)]), (35, [(27, .aload_n 1, 1, mi_o), (28, .getfield 79, 3, 4, 1, 0, 0, 38), (31, .iload 4, 2, mi_o), (33, .iaload, 1, mi_o), (34, .isub, 1, mi_o)]), (45, [(35, .istore 5, 2, mi_o), (37, .iload_n 2, 1, mi_o), (38, .bipush (-2), 2, mi_o), (40, .if_icmp .eq 9, 3, mi_o), (43, .iload 5, 2, mi_o)]), (54, [(45, .iload_n 3, 1, mi_o), (46, .if_icmp .le 9, 3, mi_o), (49, .iload 4, 2, mi_o), (51, .istore_n 2, 1, mi_o), (52, .iload 5, 2, mi_o)]), (100000, [(54, .istore_n 3, 1, mi_o), (55, .iinc 4 1, 3, mi_o), (58, .goto (-50), 3, mi_o), (61, .iload_n 2, 1, mi_o), (62, .ireturn, 1, mi_o)])]
noncomputable def mi_c72 : List (Nat × mi_I) := ft_flat ft_72
noncomputable def ft_73 : List (Nat × List (Nat × mi_I)) := [(7, [(0, .iconst 0, 1, mi_o), (1, .istore_n 2, 1, mi_o), (2, .iload_n 2, 1, mi_o), (3, .aload_n 1, 1, mi_o), (4, .getfield 49, 3, 5, 3, 0, 0, 137)]), (18, [(7, .if_icmp .ge 49, 3, mi_o), (10, .iload_n 2, 1, mi_o), (11, .aload_n 0, 1, mi_o), (12, .getfield 22, 3, 7, 2, 0, 0, 75), (15, .if_icmp .ge 33, 3, mi_o)]), (27, [(18, .aload_n 1, 1, mi_o), (19, .getfield 52, 3, 5, 4, 0, 0, 140), (22, .iload_n 2, 1, mi_o), (23, .laload, 1, mi_o), (24, .ldc2_w 121, 3, 0, 0, 7, 9, 262)]), (36, [(27, .lcmp, 1, mi_o), (28, .ifCond .eq 22, 3, mi_o), (31, .aload_n 1, 1, mi_o), (32, .getfield 52, 3, 5, 4, 0, 0, 140), (35, .iload_n 2, 1, mi_o)]), (43, [(36, .laload, 1, mi_o), (37, .aload_n 0, 1, mi_o), (38, .getfield 26, 3, 7, 3, 0, 0, 77), (41, .iload_n 2, 1, mi_o), (42, .iaload, 1, mi_o)]), (50, [(43, .i2l, 1, mi_o), (44, .lcmp, 1, mi_o), (45, .ifCond .eq 5, 3, mi_o), (48, .iload_n 2, 1, mi_o), (49, .ireturn, 1, mi_o)]), (100000, [(50, .iinc 2 1, 3, mi_o), (53, .goto (-51), 3, mi_o), (56, .bipush (-2), 2, mi_o), (58, .ireturn, 1, mi_o)])]
noncomputable def mi_c73 : List (Nat × mi_I) := ft_flat ft_73
noncomputable def ft_74 : List (Nat × List (Nat × mi_I)) := [(7, [(0, .iconst 0, 1, mi_o), (1, .istore_n 3, 1, mi_o), (2, .iconst 1, 1, mi_o), (3, .istore 4, 2, mi_o), (5, .iload 4, 2, mi_o)]), (16, [(7, .iconst 5, 1, mi_o), (8, .if_icmp .gt 47, 3, mi_o), (11, .aload_n 0, 1, mi_o), (12, .getfield 12, 3, 7, 0, 0, 0, 72), (15, .aload_n 1, 1, mi_o)]), (28, [(16, .invokevirtual 56, 3, 34, 0, 9, 0, 212), (19, .aload_n 0, 1, mi_o), (20, .getfield 12, 3, 7, 0, 0, 0, 72), (23, .iload 4, 2, mi_o), (25, .putfield 123, 3, 4, 6, 0, 0, 45)]), (37, [(28, .aload_n 0, 1, mi_o), (29, .invokevirtual 60, 3, 60, 0, 9, 0, 219), (32, .aload_n 0, 1, mi_o), (33, .aload_n 2, 1, mi_o), (34, .invokevirtual 126, 3, 73, 0, 9, 0, 265)]), (46, [(37, .bipush (-2), 2, mi_o), (39, .if_icmp .ne 10, 3, mi_o), (42, .iload_n 3, 1, mi_o), (43, .iconst 1, 1, mi_o), (44, .iload 4, 2, mi_o)]), (55, [(46, .ishl, 1, mi_o), (47, .ior, 1, mi_o), (48, .istore_n 3, 1, mi_o), (49, .iinc 4 1, 3, mi_o), (52, .goto (-47), 3, mi_o)]), (100000, [(55, .iload_n 3, 1, mi_o), (56, .ireturn, 1, mi_o)])]
noncomputable def mi_c74 : List (Nat × mi_I) := ft_flat ft_74
noncomputable def ft_75 : List (Nat × List (Nat × mi_I)) := [(8, [(0, .iconst 0, 1, mi_o), (1, .istore 4, 2, mi_o), (3, .iconst 0, 1, mi_o), (4, .istore 5, 2, mi_o), (6, .iload 5, 2, mi_o)]), (19, [(8, .aload_n 1, 1, mi_o), (9, .getfield 106, 3, 4, 0, 0, 0, 36), (12, .if_icmp .ge 48, 3, mi_o), (15, .aload_n 0, 1, mi_o), (16, .getfield 18, 3, 7, 1, 0, 0, 74)]), (27, [(19, .iload_n 3, 1, mi_o), (20, .iload 5, 2, mi_o), (22, .iastore, 1, mi_o), (23, .aload_n 0, 1, mi_o), (24, .getfield 12, 3, 7, 0, 0, 0, 72)]), (36, [(27, .aload_n 1, 1, mi_o), (28, .invokevirtual 56, 3, 34, 0, 9, 0, 212), (31, .aload_n 0, 1, mi_o), (32, .invokevirtual 60, 3, 60, 0, 9, 0, 219), (35, .aload_n 0, 1, mi_o)]), (47, [(36, .aload_n 2, 1, mi_o), (37, .invokevirtual 126, 3, 73, 0, 9, 0, 265), (40, .bipush (-2), 2, mi_o), (42, .if_icmp .ne 12, 3, mi_o), (45, .iload 4, 2, mi_o)]), (54, [(47, .iconst 1, 1, mi_o), (48, .iload 5, 2, mi_o), (50, .ishl, 1, mi_o), (51, .ior, 1, mi_o), (52, .istore 4, 2, mi_o)]), (100000, [(54, .iinc 5 1, 3, mi_o), (57, .goto (-51), 3, mi_o), (60, .iload 4, 2, mi_o), (62, .ireturn, 1, mi_o)])]
noncomputable def mi_c75 : List (Nat × mi_I) := ft_flat ft_75
noncomputable def ft_76 : List (Nat × List (Nat × mi_I)) := [(10, [(0, .iconst 0, 1, mi_o), (1, .istore 4, 2, mi_o), (3, .getstatic 130, 3, 1, 0, 2, 0, 268), (6, .iconst 1, 1, mi_o), (7, .iaload, 1, mi_o), (8, .istore 5, 2, mi_o)]), (21, [(10, .iload 5, 2, mi_o), (12, .getstatic 133, 3, 2, 0, 2, 0, 269), (15, .iconst 1, 1, mi_o), (16, .iaload, 1, mi_o), (17, .if_icmp .gt 51, 3, mi_o), (20, .aload_n 0, 1, mi_o)]), (33, [(21, .getfield 12, 3, 7, 0, 0, 0, 72), (24, .aload_n 1, 1, mi_o), (25, .invokevirtual 56, 3, 34, 0, 9, 0, 212), (28, .aload_n 0, 1, mi_o), (29, .getfield 12, 3, 7, 0, 0, 0, 72), (32, .iload_n 3, 1, mi_o)]), (44, [(33, .iconst 1, 1, mi_o), (34, .iload 5, 2, mi_o), (36, .invokevirtual 136, 3, 28, 0, 9, 0, 270), (39, .aload_n 0, 1, mi_o), (40, .invokevirtual 60, 3, 60, 0, 9, 0, 219), (43, .aload_n 0, 1, mi_o)]), (56, [(44, .aload_n 2, 1, mi_o), (45, .invokevirtual 126, 3, 73, 0, 9, 0, 265), (48, .bipush (-2), 2, mi_o), (50, .if_icmp .ne 12, 3, mi_o), (53, .iload 4, 2, mi_o), (55, .iconst 1, 1, mi_o)]), (68, [(56, .iload 5, 2, mi_o), (58, .ishl, 1, mi_o), (59, .ior, 1, mi_o), (60, .istore 4, 2, mi_o), (62, .iinc 5 1, 3, mi_o), (65, .goto (-55), 3, mi_o)]), (100000, [(68, .iload 4, 2, mi_o), (70, .ireturn, 1, mi_o)])]
noncomputable def mi_c76 : List (Nat × mi_I) := ft_flat ft_76
noncomputable def ft_77 : List (Nat × List (Nat × mi_I)) := [(17, [(0, .iconst 0, 1, mi_o), (1, .istore 5, 2, mi_o), (3, .iload 5, 2, mi_o), (5, .iconst 1, 1, mi_o), (6, .iload 4, 2, mi_o), (8, .ishl, 1, mi_o), (9, .if_icmp .ge 95, 3, mi_o), (12, .aload_n 0, 1, mi_o), (13, .getfield 12, 3, 7, 0, 0, 0, 72), (16, .aload_n 1, 1, mi_o)]), (36, [(17, .invokevirtual 56, 3, 34, 0, 9, 0, 212), (20, .iconst 0, 1, mi_o), (21, .istore 6, 2, mi_o), (23, .iload 6, 2, mi_o), (25, .iload 4, 2, mi_o), (27, .if_icmp .ge 45, 3, mi_o), (30, .iload 5, 2, mi_o), (32, .iload 4, 2, mi_o), (34, .iconst 1, 1, mi_o), (35, .isub, 1, mi_o)]), (52, [(36, .iload 6, 2, mi_o), (38, .isub, 1, mi_o), (39, .ishr, 1, mi_o), (40, .iconst 1, 1, mi_o), (41, .iand, 1, mi_o), (42, .iconst 1, 1, mi_o), (43, .if_icmp .ne 23, 3, mi_o), (46, .aload_n 0, 1, mi_o), (47, .getfield 12, 3, 7, 0, 0, 0, 72), (50, .iload 6, 2, mi_o)]), (72, [(52, .iconst 2, 1, mi_o), (53, .irem, 1, mi_o), (54, .ifCond .ne 7, 3, mi_o), (57, .iload_n 2, 1, mi_o), (58, .goto 4, 3, mi_o), (61, .iload_n 3, 1, mi_o), (62, .invokevirtual 63, 3, 29, 0, 9, 0, 220), (65, .pop, 1, mi_o), (66, .iinc 6 1, 3, mi_o), (69, .goto (-46), 3, mi_o)]), (91, [(72, .aload_n 0, 1, mi_o), (73, .getfield 41, 3, 7, 8, 0, 0, 87), (76, .iload 5, 2, mi_o), (78, .aload_n 0, 1, mi_o), (79, .getfield 12, 3, 7, 0, 0, 0, 72), (82, .iload_n 2, 1, mi_o), (83, .iconst 0, 1, mi_o), (84, .invokevirtual 85, 3, 27, 0, 9, 0, 240), (87, .aload_n 0, 1, mi_o), (88, .getfield 12, 3, 7, 0, 0, 0, 72)]), (108, [(91, .iload_n 3, 1, mi_o), (92, .iconst 0, 1, mi_o), (93, .invokevirtual 85, 3, 27, 0, 9, 0, 240), (96, .isub, 1, mi_o), (97, .iastore, 1, mi_o), (98, .iinc 5 1, 3, mi_o), (101, .goto (-98), 3, mi_o), (104, .iload 4, 2, mi_o), (106, .iconst 1, 1, mi_o), (107, .isub, 1, mi_o)]), (127, [(108, .istore 5, 2, mi_o), (110, .iload 5, 2, mi_o), (112, .ifCond .le 82, 3, mi_o), (115, .iconst 0, 1, mi_o), (116, .istore 6, 2, mi_o), (118, .iload 6, 2, mi_o), (120, .iconst 1, 1, mi_o), (121, .iload 5, 2, mi_o), (123, .ishl, 1, mi_o), (124, .if_icmp .ge 64, 3, mi_o)]), (143, [(127, .aload_n 0, 1, mi_o), (128, .getfield 41, 3, 7, 8, 0, 0, 87), (131, .iconst 2, 1, mi_o), (132, .iload 6, 2, mi_o), (134, .imul, 1, mi_o), (135, .iaload, 1, mi_o), (136, .istore 7, 2, mi_o), (138, .aload_n 0, 1, mi_o), (139, .getfield 41, 3, 7, 8, 0, 0, 87), (142, .iconst 2, 1, mi_o)]), (159, [(143, .iload 6, 2, mi_o), (145, .imul, 1, mi_o), (146, .iconst 1, 1, mi_o), (147, .iadd, 1, mi_o), (148, .iaload, 1, mi_o), (149, .istore 8, 2, mi_o), (151, .aload_n 0, 1, mi_o), (152, .getfield 41, 3, 7, 8, 0, 0, 87), (155, .iload 6, 2, mi_o), (157, .iload 5, 2, mi_o)]), (181, [(159, .iconst 2, 1, mi_o), (160, .irem, 1, mi_o), (161, .ifCond .ne 13, 3, mi_o), (164, .iload 7, 2, mi_o), (166, .iload 8, 2, mi_o), (168, .invokestatic 140, 3, 0, 0, 14, 0, 275), (171, .goto 10, 3, mi_o), (174, .iload 7, 2, mi_o), (176, .iload 8, 2, mi_o), (178, .invokestatic 116, 3, 0, 0, 15, 0, 257)]), (100000, [(181, .iastore, 1, mi_o), (182, .iinc 6 1, 3, mi_o), (185, .goto (-67), 3, mi_o), (188, .iinc 5 (-1), 3, mi_o), (191, .goto (-81), 3, mi_o), (194, .return_, 1, mi_o)])]
noncomputable def mi_c77 : List (Nat × mi_I) := ft_flat ft_77
noncomputable def ft_78 : List (Nat × List (Nat × mi_I)) := [(11, [(0, .aload_n 0, 1, mi_o), (1, .getfield 12, 3, 7, 0, 0, 0, 72), (4, .aload_n 1, 1, mi_o), (5, .invokevirtual 56, 3, 34, 0, 9, 0, 212), (8, .iload_n 2, 1, mi_o), (9, .istore 5, 2, mi_o)]), (21, [(11, .iconst 0, 1, mi_o), (12, .istore 6, 2, mi_o), (14, .iload 6, 2, mi_o), (16, .iload_n 3, 1, mi_o), (17, .if_icmp .ge 65, 3, mi_o), (20, .aload_n 1, 1, mi_o)]), (35, [(21, .getfield 106, 3, 4, 0, 0, 0, 36), (24, .ifCond .le 58, 3, mi_o), (27, .iload 5, 2, mi_o), (29, .ldc 143, 2, 0, 0, 6, 1103515245, 279), (31, .imul, 1, mi_o), (32, .sipush 12345, 3, mi_o)]), (45, [(35, .iadd, 1, mi_o), (36, .istore 5, 2, mi_o), (38, .iload 5, 2, mi_o), (40, .bipush 16, 2, mi_o), (42, .iushr, 1, mi_o), (43, .bipush 12, 2, mi_o)]), (58, [(45, .irem, 1, mi_o), (46, .iload 4, 2, mi_o), (48, .if_icmp .ge 10, 3, mi_o), (51, .aload_n 0, 1, mi_o), (52, .getfield 12, 3, 7, 0, 0, 0, 72), (55, .invokevirtual 72, 3, 32, 0, 9, 0, 232)]), (68, [(58, .aload_n 0, 1, mi_o), (59, .getfield 12, 3, 7, 0, 0, 0, 72), (62, .iload 5, 2, mi_o), (64, .bipush 8, 2, mi_o), (66, .iushr, 1, mi_o), (67, .aload_n 1, 1, mi_o)]), (82, [(68, .getfield 106, 3, 4, 0, 0, 0, 36), (71, .irem, 1, mi_o), (72, .invokevirtual 63, 3, 29, 0, 9, 0, 220), (75, .pop, 1, mi_o), (76, .iinc 6 1, 3, mi_o), (79, .goto (-65), 3, mi_o)]), (100000, [(82, .iload 5, 2, mi_o), (84, .ireturn, 1, mi_o)])]
noncomputable def mi_c78 : List (Nat × mi_I) := ft_flat ft_78
noncomputable def ft_79 : List (Nat × List (Nat × mi_I)) := [(15, [(0, .aload_n 0, 1, mi_o), (1, .invokespecial 1, 3, 0, 0, 12, 0, 2), (4, .aload_n 0, 1, mi_o), (5, .new 7, 3, 4, 0, 3, 0, 3), (8, .dup, 1, mi_o), (9, .invokespecial 9, 3, 23, 0, 10, 0, 4), (12, .putfield 10, 3, 8, 0, 0, 0, 142)]), (28, [(15, .aload_n 0, 1, mi_o), (16, .new 7, 3, 4, 0, 3, 0, 3), (19, .dup, 1, mi_o), (20, .invokespecial 9, 3, 23, 0, 10, 0, 4), (23, .putfield 16, 3, 8, 1, 0, 0, 143), (26, .aload_n 0, 1, mi_o), (27, .iconst 0, 1, mi_o)]), (43, [(28, .putfield 19, 3, 8, 2, 0, 0, 144), (31, .aload_n 0, 1, mi_o), (32, .new 23, 3, 7, 0, 3, 0, 66), (35, .dup, 1, mi_o), (36, .invokespecial 25, 3, 57, 0, 10, 0, 67), (39, .putfield 26, 3, 8, 3, 0, 0, 145), (42, .aload_n 0, 1, mi_o)]), (58, [(43, .new 30, 3, 1, 0, 3, 0, 90), (46, .dup, 1, mi_o), (47, .invokespecial 32, 3, 4, 0, 10, 0, 91), (50, .putfield 33, 3, 8, 4, 0, 0, 146), (53, .aload_n 0, 1, mi_o), (54, .new 37, 3, 2, 0, 3, 0, 105), (57, .dup, 1, mi_o)]), (74, [(58, .invokespecial 39, 3, 7, 0, 10, 0, 106), (61, .putfield 40, 3, 8, 5, 0, 0, 147), (64, .aload_n 0, 1, mi_o), (65, .bipush 6, 2, mi_o), (67, .anewarray 44, 3, 5, 0, 3, 0, 116), (70, .putfield 46, 3, 8, 6, 0, 0, 148), (73, .aload_n 0, 1, mi_o)]), (87, [(74, .new 50, 3, 6, 0, 3, 0, 117), (77, .dup, 1, mi_o), (78, .invokespecial 52, 3, 41, 0, 10, 0, 118), (81, .putfield 53, 3, 8, 7, 0, 0, 149), (84, .iconst 0, 1, mi_o), (85, .istore_n 1, 1, mi_o), (86, .iload_n 1, 1, mi_o)]), (101, [(87, .bipush 6, 2, mi_o), (89, .if_icmp .ge 22, 3, mi_o), (92, .aload_n 0, 1, mi_o), (93, .getfield 46, 3, 8, 6, 0, 0, 148), (96, .iload_n 1, 1, mi_o), (97, .new 44, 3, 5, 0, 3, 0, 116), (100, .dup, 1, mi_o)]), (100000, [(101, .invokespecial 57, 3, 35, 0, 10, 0, 128), (104, .aastore, 1, mi_o), (105, .iinc 1 1, 3, mi_o), (108, .goto (-22), 3, mi_o), (111, .return_, 1, mi_o)])]
noncomputable def mi_c79 : List (Nat × mi_I) := ft_flat ft_79
noncomputable def ft_80 : List (Nat × List (Nat × mi_I)) := [(8, [(0, .iconst 1, 1, mi_o), (1, .iload_n 1, 1, mi_o), (2, .invokestatic 58, 3, 126, 0, 9, 0, 151), (5, .ifCond .eq 11, 3, mi_o)]), (16, [(8, .iconst 2, 1, mi_o), (9, .iload_n 2, 1, mi_o), (10, .invokestatic 58, 3, 126, 0, 9, 0, 151), (13, .ifCond .ne 5, 3, mi_o)]), (22, [(16, .iconst (-1), 1, mi_o), (17, .ireturn, 1, mi_o), (18, .aload_n 0, 1, mi_o), (19, .getfield 10, 3, 8, 0, 0, 0, 142)]), (32, [(22, .getfield 62, 3, 4, 0, 0, 0, 35), (25, .bipush 8, 2, mi_o), (27, .if_icmp .lt 8, 3, mi_o), (30, .bipush (-3), 2, mi_o)]), (41, [(32, .goto 14, 3, mi_o), (35, .aload_n 0, 1, mi_o), (36, .getfield 10, 3, 8, 0, 0, 0, 142), (39, .bipush 100, 2, mi_o)]), (100000, [(41, .iload_n 1, 1, mi_o), (42, .iload_n 2, 1, mi_o), (43, .invokevirtual 66, 3, 25, 0, 9, 0, 155), (46, .ireturn, 1, mi_o)])]
noncomputable def mi_c80 : List (Nat × mi_I) := ft_flat ft_80
noncomputable def ft_81 : List (Nat × List (Nat × mi_I)) := [(14, [(0, .iload_n 1, 1, mi_o), (1, .invokestatic 70, 3, 121, 0, 9, 0, 157), (4, .ifCond .eq 13, 3, mi_o), (7, .iload_n 3, 1, mi_o), (8, .iconst 1, 1, mi_o), (9, .bipush 8, 2, mi_o), (11, .invokestatic 74, 3, 120, 0, 9, 0, 152)]), (25, [(14, .ifCond .ne 5, 3, mi_o), (17, .iconst (-1), 1, mi_o), (18, .ireturn, 1, mi_o), (19, .aload_n 0, 1, mi_o), (20, .getfield 46, 3, 8, 6, 0, 0, 148), (23, .iload_n 1, 1, mi_o), (24, .aaload, 1, mi_o)]), (39, [(25, .astore 4, 2, mi_o), (27, .aload 4, 2, mi_o), (29, .getfield 78, 3, 5, 0, 0, 0, 131), (32, .ifCond .ne 5, 3, mi_o), (35, .iconst 0, 1, mi_o), (36, .ireturn, 1, mi_o), (37, .aload 4, 2, mi_o)]), (51, [(39, .iconst 1, 1, mi_o), (40, .invokevirtual 81, 3, 36, 0, 9, 0, 158), (43, .ifCond .ne 6, 3, mi_o), (46, .bipush (-12), 2, mi_o), (48, .ireturn, 1, mi_o), (49, .iload_n 2, 1, mi_o), (50, .iconst 0, 1, mi_o)]), (64, [(51, .bipush 60, 2, mi_o), (53, .invokestatic 74, 3, 120, 0, 9, 0, 152), (56, .ifCond .ne 5, 3, mi_o), (59, .iconst 0, 1, mi_o), (60, .ireturn, 1, mi_o), (61, .iconst 0, 1, mi_o), (62, .istore 5, 2, mi_o)]), (76, [(64, .iconst 0, 1, mi_o), (65, .istore 6, 2, mi_o), (67, .iload 6, 2, mi_o), (69, .iload_n 3, 1, mi_o), (70, .if_icmp .ge 27, 3, mi_o), (73, .aload_n 0, 1, mi_o), (74, .aload 4, 2, mi_o)]), (88, [(76, .iload_n 2, 1, mi_o), (77, .iconst 3, 1, mi_o), (78, .iload 6, 2, mi_o), (80, .imul, 1, mi_o), (81, .iadd, 1, mi_o), (82, .invokevirtual 84, 3, 82, 0, 9, 0, 159), (85, .ifCond .eq 12, 3, mi_o)]), (100000, [(88, .iinc 5 1, 3, mi_o), (91, .iinc 6 1, 3, mi_o), (94, .goto (-27), 3, mi_o), (97, .iload 5, 2, mi_o), (99, .ireturn, 1, mi_o)])]
noncomputable def mi_c81 : List (Nat × mi_I) := ft_flat ft_81
noncomputable def ft_82 : List (Nat × List (Nat × mi_I)) := [(16, [(0, .aload_n 0, 1, mi_o), (1, .getfield 10, 3, 8, 0, 0, 0, 142), (4, .getfield 62, 3, 4, 0, 0, 0, 35), (7, .bipush 8, 2, mi_o), (9, .if_icmp .ge 17, 3, mi_o), (12, .iload_n 2, 1, mi_o), (13, .ifCond .lt 13, 3, mi_o)]), (27, [(16, .iload_n 2, 1, mi_o), (17, .iconst 2, 1, mi_o), (18, .iadd, 1, mi_o), (19, .aload_n 1, 1, mi_o), (20, .getfield 88, 3, 5, 3, 0, 0, 138), (23, .if_icmp .lt 5, 3, mi_o), (26, .iconst 0, 1, mi_o)]), (36, [(27, .ireturn, 1, mi_o), (28, .aload_n 1, 1, mi_o), (29, .getfield 91, 3, 5, 4, 0, 0, 141), (32, .iload_n 2, 1, mi_o), (33, .laload, 1, mi_o), (34, .l2i, 1, mi_o), (35, .istore_n 3, 1, mi_o)]), (45, [(36, .aload_n 1, 1, mi_o), (37, .getfield 91, 3, 5, 4, 0, 0, 141), (40, .iload_n 2, 1, mi_o), (41, .iconst 1, 1, mi_o), (42, .iadd, 1, mi_o), (43, .laload, 1, mi_o), (44, .l2i, 1, mi_o)]), (55, [(45, .istore 4, 2, mi_o), (47, .aload_n 1, 1, mi_o), (48, .getfield 91, 3, 5, 4, 0, 0, 141), (51, .iload_n 2, 1, mi_o), (52, .iconst 2, 1, mi_o), (53, .iadd, 1, mi_o), (54, .laload, 1, mi_o)]), (67, [(55, .l2i, 1, mi_o), (56, .istore 5, 2, mi_o), (58, .iconst 0, 1, mi_o), (59, .iload_n 3, 1, mi_o), (60, .invokestatic 58, 3, 126, 0, 9, 0, 151), (63, .ifCond .eq 21, 3, mi_o), (66, .iconst 1, 1, mi_o)]), (84, [(67, .iload 4, 2, mi_o), (69, .invokestatic 58, 3, 126, 0, 9, 0, 151), (72, .ifCond .eq 12, 3, mi_o), (75, .iconst 2, 1, mi_o), (76, .iload 5, 2, mi_o), (78, .invokestatic 58, 3, 126, 0, 9, 0, 151), (81, .ifCond .ne 5, 3, mi_o)]), (95, [(84, .iconst 0, 1, mi_o), (85, .ireturn, 1, mi_o), (86, .aload_n 0, 1, mi_o), (87, .getfield 10, 3, 8, 0, 0, 0, 142), (90, .iload_n 3, 1, mi_o), (91, .iload 4, 2, mi_o), (93, .iload 5, 2, mi_o)]), (100000, [(95, .invokevirtual 66, 3, 25, 0, 9, 0, 155), (98, .pop, 1, mi_o), (99, .iconst 1, 1, mi_o), (100, .ireturn, 1, mi_o)])]
noncomputable def mi_c82 : List (Nat × mi_I) := ft_flat ft_82
noncomputable def ft_83 : List (Nat × List (Nat × mi_I)) := [(9, [(0, .aload_n 0, 1, mi_o), (1, .iload_n 1, 1, mi_o), (2, .iload_n 2, 1, mi_o), (3, .invokevirtual 95, 3, 125, 0, 9, 0, 161), (6, .ifCond .eq 11, 3, mi_o)]), (18, [(9, .iload_n 2, 1, mi_o), (10, .iload_n 3, 1, mi_o), (11, .invokestatic 58, 3, 126, 0, 9, 0, 151), (14, .ifCond .ne 5, 3, mi_o), (17, .iconst (-1), 1, mi_o)]), (25, [(18, .ireturn, 1, mi_o), (19, .aload_n 0, 1, mi_o), (20, .getfield 10, 3, 8, 0, 0, 0, 142), (23, .iload_n 1, 1, mi_o), (24, .iload_n 2, 1, mi_o)]), (36, [(25, .invokevirtual 98, 3, 27, 0, 9, 0, 164), (28, .istore 4, 2, mi_o), (30, .iload 4, 2, mi_o), (32, .iload_n 3, 1, mi_o), (33, .if_icmp .eq 25, 3, mi_o)]), (43, [(36, .aload_n 0, 1, mi_o), (37, .getfield 10, 3, 8, 0, 0, 0, 142), (40, .iload_n 1, 1, mi_o), (41, .iload_n 2, 1, mi_o), (42, .iload_n 3, 1, mi_o)]), (52, [(43, .invokevirtual 102, 3, 28, 0, 9, 0, 167), (46, .aload_n 0, 1, mi_o), (47, .getfield 33, 3, 8, 4, 0, 0, 146), (50, .iload_n 1, 1, mi_o), (51, .iload_n 2, 1, mi_o)]), (100000, [(52, .iload 4, 2, mi_o), (54, .iload_n 3, 1, mi_o), (55, .invokevirtual 106, 3, 5, 0, 9, 0, 168), (58, .iload 4, 2, mi_o), (60, .ireturn, 1, mi_o)])]
noncomputable def mi_c83 : List (Nat × mi_I) := ft_flat ft_83
noncomputable def ft_84 : List (Nat × List (Nat × mi_I)) := [(6, [(0, .aload_n 0, 1, mi_o), (1, .iload_n 1, 1, mi_o), (2, .iload_n 2, 1, mi_o), (3, .invokevirtual 95, 3, 125, 0, 9, 0, 161)]), (14, [(6, .ifCond .eq 15, 3, mi_o), (9, .aload_n 0, 1, mi_o), (10, .getfield 10, 3, 8, 0, 0, 0, 142), (13, .iload_n 1, 1, mi_o)]), (22, [(14, .iload_n 2, 1, mi_o), (15, .invokevirtual 98, 3, 27, 0, 9, 0, 164), (18, .goto 4, 3, mi_o), (21, .iconst (-1), 1, mi_o)]), (100000, [(22, .ireturn, 1, mi_o)])]
noncomputable def mi_c84 : List (Nat × mi_I) := ft_flat ft_84
noncomputable def ft_85 : List (Nat × List (Nat × mi_I)) := [(8, [(0, .iload_n 1, 1, mi_o), (1, .iconst 0, 1, mi_o), (2, .sipush 255, 3, mi_o), (5, .invokestatic 74, 3, 120, 0, 9, 0, 152)]), (14, [(8, .ifCond .ne 5, 3, mi_o), (11, .iconst (-1), 1, mi_o), (12, .ireturn, 1, mi_o), (13, .aload_n 0, 1, mi_o)]), (25, [(14, .getfield 53, 3, 8, 7, 0, 0, 149), (17, .getfield 109, 3, 6, 1, 0, 0, 124), (20, .bipush 120, 2, mi_o), (22, .if_icmp .lt 8, 3, mi_o)]), (34, [(25, .bipush (-3), 2, mi_o), (27, .goto 11, 3, mi_o), (30, .aload_n 0, 1, mi_o), (31, .getfield 53, 3, 8, 7, 0, 0, 149)]), (100000, [(34, .iload_n 1, 1, mi_o), (35, .invokevirtual 110, 3, 42, 0, 9, 0, 173), (38, .ireturn, 1, mi_o)])]
noncomputable def mi_c85 : List (Nat × mi_I) := ft_flat ft_85
noncomputable def ft_86 : List (Nat × List (Nat × mi_I)) := [(9, [(0, .aload_n 0, 1, mi_o), (1, .getfield 53, 3, 8, 7, 0, 0, 149), (4, .invokevirtual 113, 3, 44, 0, 9, 0, 175), (7, .istore_n 1, 1, mi_o), (8, .aload_n 0, 1, mi_o)]), (20, [(9, .getfield 53, 3, 8, 7, 0, 0, 149), (12, .iconst 0, 1, mi_o), (13, .putfield 109, 3, 6, 1, 0, 0, 124), (16, .iload_n 1, 1, mi_o), (17, .ifCond .lt 8, 3, mi_o)]), (26, [(20, .bipush (-100), 2, mi_o), (22, .iload_n 1, 1, mi_o), (23, .isub, 1, mi_o), (24, .ireturn, 1, mi_o), (25, .aload_n 0, 1, mi_o)]), (37, [(26, .getfield 10, 3, 8, 0, 0, 0, 142), (29, .aload_n 0, 1, mi_o), (30, .getfield 53, 3, 8, 7, 0, 0, 149), (33, .aload_n 0, 1, mi_o), (34, .getfield 10, 3, 8, 0, 0, 0, 142)]), (100000, [(37, .getfield 117, 3, 4, 11, 0, 0, 53), (40, .invokevirtual 121, 3, 43, 0, 9, 0, 205), (43, .putfield 117, 3, 4, 11, 0, 0, 53), (46, .iconst 1, 1, mi_o), (47, .ireturn, 1, mi_o)])]
noncomputable def mi_c86 : List (Nat × mi_I) := ft_flat ft_86
noncomputable def ft_87 : List (Nat × List (Nat × mi_I)) := [(7, [(0, .iload_n 1, 1, mi_o), (1, .ifCond .lt 12, 3, mi_o), (4, .iload_n 2, 1, mi_o), (5, .iconst 0, 1, mi_o), (6, .iconst 1, 1, mi_o)]), (16, [(7, .invokestatic 74, 3, 120, 0, 9, 0, 152), (10, .ifCond .ne 5, 3, mi_o), (13, .iconst (-1), 1, mi_o), (14, .ireturn, 1, mi_o), (15, .iload_n 1, 1, mi_o)]), (29, [(16, .aload_n 0, 1, mi_o), (17, .getfield 10, 3, 8, 0, 0, 0, 142), (20, .getfield 125, 3, 4, 10, 0, 0, 51), (23, .getfield 129, 3, 0, 2, 0, 0, 17), (26, .if_icmp .lt 6, 3, mi_o)]), (37, [(29, .bipush (-2), 2, mi_o), (31, .ireturn, 1, mi_o), (32, .iload_n 2, 1, mi_o), (33, .ifCond .ne 18, 3, mi_o), (36, .aload_n 0, 1, mi_o)]), (48, [(37, .getfield 10, 3, 8, 0, 0, 0, 142), (40, .getfield 125, 3, 4, 10, 0, 0, 51), (43, .getfield 134, 3, 0, 0, 0, 0, 11), (46, .iload_n 1, 1, mi_o), (47, .iaload, 1, mi_o)]), (61, [(48, .goto 15, 3, mi_o), (51, .aload_n 0, 1, mi_o), (52, .getfield 10, 3, 8, 0, 0, 0, 142), (55, .getfield 125, 3, 4, 10, 0, 0, 51), (58, .getfield 138, 3, 0, 1, 0, 0, 14)]), (100000, [(61, .iload_n 1, 1, mi_o), (62, .iaload, 1, mi_o), (63, .ireturn, 1, mi_o)])]
noncomputable def mi_c87 : List (Nat × mi_I) := ft_flat ft_87
noncomputable def ft_88 : List (Nat × List (Nat × mi_I)) := [(11, [(0, .iload_n 3, 1, mi_o), (1, .iconst 0, 1, mi_o), (2, .iconst 3, 1, mi_o), (3, .invokestatic 74, 3, 120, 0, 9, 0, 152), (6, .ifCond .eq 23, 3, mi_o), (9, .iload_n 3, 1, mi_o), (10, .iconst 3, 1, mi_o)]), (26, [(11, .if_icmp .ne 14, 3, mi_o), (14, .aload_n 0, 1, mi_o), (15, .iload_n 2, 1, mi_o), (16, .invokevirtual 141, 3, 123, 0, 9, 0, 162), (19, .ifCond .ne 12, 3, mi_o), (22, .goto 7, 3, mi_o), (25, .iload_n 2, 1, mi_o)]), (38, [(26, .ifCond .eq 5, 3, mi_o), (29, .iconst (-1), 1, mi_o), (30, .ireturn, 1, mi_o), (31, .aload_n 0, 1, mi_o), (32, .iload_n 1, 1, mi_o), (33, .invokevirtual 144, 3, 129, 0, 9, 0, 208), (36, .istore 4, 2, mi_o)]), (51, [(38, .iload 4, 2, mi_o), (40, .ifCond .ge 6, 3, mi_o), (43, .iload 4, 2, mi_o), (45, .ireturn, 1, mi_o), (46, .aload_n 0, 1, mi_o), (47, .getfield 26, 3, 8, 3, 0, 0, 145), (50, .aload_n 0, 1, mi_o)]), (91, [(51, .getfield 10, 3, 8, 0, 0, 0, 142), (54, .invokevirtual 147, 3, 59, 0, 9, 0, 211), (57, .iload_n 3, 1, mi_o), (58, .tableswitch 61 0 2 #[26, 34, 47], 26, mi_o), (84, .aload_n 0, 1, mi_o), (85, .getfield 26, 3, 8, 3, 0, 0, 145), (88, .getfield 151, 3, 7, 2, 0, 0, 76)]), (104, [(91, .ireturn, 1, mi_o), (92, .aload_n 0, 1, mi_o), (93, .getfield 26, 3, 8, 3, 0, 0, 145), (96, .getfield 152, 3, 7, 0, 0, 0, 73), (99, .getfield 155, 3, 4, 12, 0, 0, 56), (102, .iconst 2, 1, mi_o), (103, .iaload, 1, mi_o)]), (119, [(104, .ireturn, 1, mi_o), (105, .aload_n 0, 1, mi_o), (106, .getfield 26, 3, 8, 3, 0, 0, 145), (109, .getfield 152, 3, 7, 0, 0, 0, 73), (112, .getfield 125, 3, 4, 10, 0, 0, 51), (115, .getfield 129, 3, 0, 2, 0, 0, 17), (118, .ireturn, 1, mi_o)]), (100000, [(119, .aload_n 0, 1, mi_o), (120, .getfield 26, 3, 8, 3, 0, 0, 145), (123, .getfield 152, 3, 7, 0, 0, 0, 73), (126, .iload_n 2, 1, mi_o), (127, .iconst 0, 1, mi_o), (128, .invokevirtual 98, 3, 27, 0, 9, 0, 164), (131, .ireturn, 1, mi_o)])]
noncomputable def mi_c88 : List (Nat × mi_I) := ft_flat ft_88
noncomputable def ft_89 : List (Nat × List (Nat × mi_I)) := [(13, [(0, .iload_n 2, 1, mi_o), (1, .ifCond .lt 12, 3, mi_o), (4, .iload_n 3, 1, mi_o), (5, .iconst 0, 1, mi_o), (6, .iconst 2, 1, mi_o), (7, .invokestatic 74, 3, 120, 0, 9, 0, 152), (10, .ifCond .ne 5, 3, mi_o)]), (24, [(13, .iconst (-1), 1, mi_o), (14, .ireturn, 1, mi_o), (15, .aload_n 0, 1, mi_o), (16, .iload_n 1, 1, mi_o), (17, .invokevirtual 144, 3, 129, 0, 9, 0, 208), (20, .istore 4, 2, mi_o), (22, .iload 4, 2, mi_o)]), (38, [(24, .ifCond .ge 6, 3, mi_o), (27, .iload 4, 2, mi_o), (29, .ireturn, 1, mi_o), (30, .iload_n 2, 1, mi_o), (31, .aload_n 0, 1, mi_o), (32, .getfield 26, 3, 8, 3, 0, 0, 145), (35, .getfield 151, 3, 7, 2, 0, 0, 76)]), (52, [(38, .if_icmp .lt 6, 3, mi_o), (41, .bipush (-2), 2, mi_o), (43, .ireturn, 1, mi_o), (44, .aload_n 0, 1, mi_o), (45, .getfield 26, 3, 8, 3, 0, 0, 145), (48, .aload_n 0, 1, mi_o), (49, .getfield 10, 3, 8, 0, 0, 0, 142)]), (67, [(52, .invokevirtual 147, 3, 59, 0, 9, 0, 211), (55, .iload_n 3, 1, mi_o), (56, .ifCond .ne 13, 3, mi_o), (59, .aload_n 0, 1, mi_o), (60, .getfield 26, 3, 8, 3, 0, 0, 145), (63, .getfield 158, 3, 7, 3, 0, 0, 78), (66, .iload_n 2, 1, mi_o)]), (78, [(67, .iaload, 1, mi_o), (68, .ireturn, 1, mi_o), (69, .iload_n 3, 1, mi_o), (70, .iconst 1, 1, mi_o), (71, .if_icmp .ne 15, 3, mi_o), (74, .aload_n 0, 1, mi_o), (75, .getfield 26, 3, 8, 3, 0, 0, 145)]), (93, [(78, .getfield 161, 3, 7, 4, 0, 0, 80), (81, .iload_n 2, 1, mi_o), (82, .iaload, 1, mi_o), (83, .goto 12, 3, mi_o), (86, .aload_n 0, 1, mi_o), (87, .getfield 26, 3, 8, 3, 0, 0, 145), (90, .getfield 164, 3, 7, 5, 0, 0, 82)]), (100000, [(93, .iload_n 2, 1, mi_o), (94, .iaload, 1, mi_o), (95, .ireturn, 1, mi_o)])]
noncomputable def mi_c89 : List (Nat × mi_I) := ft_flat ft_89
noncomputable def ft_90 : List (Nat × List (Nat × mi_I)) := [(10, [(0, .iload_n 2, 1, mi_o), (1, .iconst 0, 1, mi_o), (2, .bipush 20, 2, mi_o), (4, .invokestatic 74, 3, 120, 0, 9, 0, 152), (7, .ifCond .eq 16, 3, mi_o)]), (17, [(10, .iload_n 3, 1, mi_o), (11, .iconst (-1), 1, mi_o), (12, .if_icmp .eq 13, 3, mi_o), (15, .aload_n 0, 1, mi_o), (16, .iload_n 3, 1, mi_o)]), (26, [(17, .invokevirtual 141, 3, 123, 0, 9, 0, 162), (20, .ifCond .ne 5, 3, mi_o), (23, .iconst (-1), 1, mi_o), (24, .ireturn, 1, mi_o), (25, .aload_n 0, 1, mi_o)]), (37, [(26, .iload_n 1, 1, mi_o), (27, .invokevirtual 144, 3, 129, 0, 9, 0, 208), (30, .istore 4, 2, mi_o), (32, .iload 4, 2, mi_o), (34, .ifCond .ge 6, 3, mi_o)]), (45, [(37, .iload 4, 2, mi_o), (39, .ireturn, 1, mi_o), (40, .aload_n 0, 1, mi_o), (41, .getfield 26, 3, 8, 3, 0, 0, 145), (44, .aload_n 0, 1, mi_o)]), (56, [(45, .getfield 10, 3, 8, 0, 0, 0, 142), (48, .iload_n 2, 1, mi_o), (49, .invokevirtual 167, 3, 61, 0, 9, 0, 231), (52, .aload_n 0, 1, mi_o), (53, .getfield 26, 3, 8, 3, 0, 0, 145)]), (100000, [(56, .iload_n 3, 1, mi_o), (57, .invokevirtual 171, 3, 62, 0, 9, 0, 233), (60, .ireturn, 1, mi_o)])]
noncomputable def mi_c90 : List (Nat × mi_I) := ft_flat ft_90
noncomputable def ft_91 : List (Nat × List (Nat × mi_I)) := [(10, [(0, .aload_n 0, 1, mi_o), (1, .iload_n 2, 1, mi_o), (2, .invokevirtual 141, 3, 123, 0, 9, 0, 162), (5, .ifCond .eq 12, 3, mi_o), (8, .iload_n 3, 1, mi_o), (9, .iconst 0, 1, mi_o)]), (20, [(10, .iconst 1, 1, mi_o), (11, .invokestatic 74, 3, 120, 0, 9, 0, 152), (14, .ifCond .ne 5, 3, mi_o), (17, .iconst (-1), 1, mi_o), (18, .ireturn, 1, mi_o), (19, .aload_n 0, 1, mi_o)]), (33, [(20, .iload_n 1, 1, mi_o), (21, .invokevirtual 144, 3, 129, 0, 9, 0, 208), (24, .istore 4, 2, mi_o), (26, .iload 4, 2, mi_o), (28, .ifCond .ge 6, 3, mi_o), (31, .iload 4, 2, mi_o)]), (46, [(33, .ireturn, 1, mi_o), (34, .aload_n 0, 1, mi_o), (35, .getfield 26, 3, 8, 3, 0, 0, 145), (38, .getfield 151, 3, 7, 2, 0, 0, 76), (41, .bipush 20, 2, mi_o), (43, .if_icmp .lt 6, 3, mi_o)]), (57, [(46, .bipush (-5), 2, mi_o), (48, .ireturn, 1, mi_o), (49, .aload_n 0, 1, mi_o), (50, .getfield 26, 3, 8, 3, 0, 0, 145), (53, .aload_n 0, 1, mi_o), (54, .getfield 10, 3, 8, 0, 0, 0, 142)]), (69, [(57, .iload_n 2, 1, mi_o), (58, .invokevirtual 174, 3, 66, 0, 9, 0, 236), (61, .istore 5, 2, mi_o), (63, .iload_n 3, 1, mi_o), (64, .ifCond .ne 8, 3, mi_o), (67, .iload 5, 2, mi_o)]), (100000, [(69, .goto 10, 3, mi_o), (72, .aload_n 0, 1, mi_o), (73, .getfield 26, 3, 8, 3, 0, 0, 145), (76, .getfield 178, 3, 7, 6, 0, 0, 84), (79, .ireturn, 1, mi_o)])]
noncomputable def mi_c91 : List (Nat × mi_I) := ft_flat ft_91
noncomputable def ft_92 : List (Nat × List (Nat × mi_I)) := [(14, [(0, .iload_n 2, 1, mi_o), (1, .ifCond .lt 21, 3, mi_o), (4, .aload_n 0, 1, mi_o), (5, .iload_n 3, 1, mi_o), (6, .invokevirtual 141, 3, 123, 0, 9, 0, 162), (9, .ifCond .eq 13, 3, mi_o), (12, .iload 4, 2, mi_o)]), (25, [(14, .iconst 0, 1, mi_o), (15, .iconst 1, 1, mi_o), (16, .invokestatic 74, 3, 120, 0, 9, 0, 152), (19, .ifCond .ne 5, 3, mi_o), (22, .iconst (-1), 1, mi_o), (23, .ireturn, 1, mi_o), (24, .aload_n 0, 1, mi_o)]), (39, [(25, .iload_n 1, 1, mi_o), (26, .invokevirtual 144, 3, 129, 0, 9, 0, 208), (29, .istore 5, 2, mi_o), (31, .iload 5, 2, mi_o), (33, .ifCond .ge 6, 3, mi_o), (36, .iload 5, 2, mi_o), (38, .ireturn, 1, mi_o)]), (52, [(39, .iload_n 2, 1, mi_o), (40, .aload_n 0, 1, mi_o), (41, .getfield 26, 3, 8, 3, 0, 0, 145), (44, .getfield 151, 3, 7, 2, 0, 0, 76), (47, .if_icmp .le 5, 3, mi_o), (50, .iconst (-1), 1, mi_o), (51, .ireturn, 1, mi_o)]), (67, [(52, .aload_n 0, 1, mi_o), (53, .getfield 26, 3, 8, 3, 0, 0, 145), (56, .getfield 151, 3, 7, 2, 0, 0, 76), (59, .bipush 20, 2, mi_o), (61, .if_icmp .lt 6, 3, mi_o), (64, .bipush (-5), 2, mi_o), (66, .ireturn, 1, mi_o)]), (80, [(67, .aload_n 0, 1, mi_o), (68, .getfield 26, 3, 8, 3, 0, 0, 145), (71, .aload_n 0, 1, mi_o), (72, .getfield 10, 3, 8, 0, 0, 0, 142), (75, .iload_n 2, 1, mi_o), (76, .iload_n 3, 1, mi_o), (77, .invokevirtual 181, 3, 67, 0, 9, 0, 243)]), (96, [(80, .istore 6, 2, mi_o), (82, .iload 4, 2, mi_o), (84, .ifCond .ne 8, 3, mi_o), (87, .iload 6, 2, mi_o), (89, .goto 10, 3, mi_o), (92, .aload_n 0, 1, mi_o), (93, .getfield 26, 3, 8, 3, 0, 0, 145)]), (100000, [(96, .getfield 178, 3, 7, 6, 0, 0, 84), (99, .ireturn, 1, mi_o)])]
noncomputable def mi_c92 : List (Nat × mi_I) := ft_flat ft_92
noncomputable def ft_93 : List (Nat × List (Nat × mi_I)) := [(9, [(0, .aload_n 0, 1, mi_o), (1, .iload_n 2, 1, mi_o), (2, .invokevirtual 141, 3, 123, 0, 9, 0, 162), (5, .ifCond .eq 12, 3, mi_o), (8, .iload_n 3, 1, mi_o)]), (18, [(9, .iconst 0, 1, mi_o), (10, .iconst 1, 1, mi_o), (11, .invokestatic 74, 3, 120, 0, 9, 0, 152), (14, .ifCond .ne 5, 3, mi_o), (17, .iconst (-1), 1, mi_o)]), (26, [(18, .ireturn, 1, mi_o), (19, .aload_n 0, 1, mi_o), (20, .iload_n 1, 1, mi_o), (21, .invokevirtual 144, 3, 129, 0, 9, 0, 208), (24, .istore 4, 2, mi_o)]), (35, [(26, .iload 4, 2, mi_o), (28, .ifCond .ge 6, 3, mi_o), (31, .iload 4, 2, mi_o), (33, .ireturn, 1, mi_o), (34, .aload_n 0, 1, mi_o)]), (46, [(35, .getfield 26, 3, 8, 3, 0, 0, 145), (38, .aload_n 0, 1, mi_o), (39, .getfield 10, 3, 8, 0, 0, 0, 142), (42, .iload_n 2, 1, mi_o), (43, .invokevirtual 185, 3, 68, 0, 9, 0, 245)]), (57, [(46, .istore 5, 2, mi_o), (48, .iload_n 3, 1, mi_o), (49, .ifCond .ne 8, 3, mi_o), (52, .iload 5, 2, mi_o), (54, .goto 10, 3, mi_o)]), (100000, [(57, .aload_n 0, 1, mi_o), (58, .getfield 26, 3, 8, 3, 0, 0, 145), (61, .getfield 178, 3, 7, 6, 0, 0, 84), (64, .ireturn, 1, mi_o)])]
noncomputable def mi_c93 : List (Nat × mi_I) := ft_flat ft_93
noncomputable def ft_94 : List (Nat × List (Nat × mi_I)) := [(13, [(0, .iload_n 1, 1, mi_o), (1, .ifCond .lt 29, 3, mi_o), (4, .iload_n 1, 1, mi_o), (5, .iconst 1, 1, mi_o), (6, .aload_n 0, 1, mi_o), (7, .getfield 10, 3, 8, 0, 0, 0, 142), (10, .getfield 62, 3, 4, 0, 0, 0, 35)]), (26, [(13, .ishl, 1, mi_o), (14, .if_icmp .ge 16, 3, mi_o), (17, .aload_n 0, 1, mi_o), (18, .iload_n 2, 1, mi_o), (19, .invokevirtual 141, 3, 123, 0, 9, 0, 162), (22, .ifCond .eq 8, 3, mi_o), (25, .iload_n 3, 1, mi_o)]), (38, [(26, .iconst (-1), 1, mi_o), (27, .if_icmp .ge 5, 3, mi_o), (30, .iconst (-1), 1, mi_o), (31, .ireturn, 1, mi_o), (32, .iload_n 1, 1, mi_o), (33, .invokestatic 188, 3, 226, 0, 9, 0, 247), (36, .istore 4, 2, mi_o)]), (50, [(38, .iload_n 3, 1, mi_o), (39, .iload 4, 2, mi_o), (41, .if_icmp .lt 6, 3, mi_o), (44, .bipush (-2), 2, mi_o), (46, .ireturn, 1, mi_o), (47, .iload 4, 2, mi_o), (49, .iconst 5, 1, mi_o)]), (64, [(50, .if_icmp .le 6, 3, mi_o), (53, .bipush (-5), 2, mi_o), (55, .ireturn, 1, mi_o), (56, .aload_n 0, 1, mi_o), (57, .getfield 26, 3, 8, 3, 0, 0, 145), (60, .aload_n 0, 1, mi_o), (61, .getfield 10, 3, 8, 0, 0, 0, 142)]), (77, [(64, .iload_n 1, 1, mi_o), (65, .iload_n 2, 1, mi_o), (66, .invokevirtual 193, 3, 69, 0, 9, 0, 251), (69, .iload_n 3, 1, mi_o), (70, .ifCond .ge 13, 3, mi_o), (73, .aload_n 0, 1, mi_o), (74, .getfield 26, 3, 8, 3, 0, 0, 145)]), (92, [(77, .getfield 178, 3, 7, 6, 0, 0, 84), (80, .goto 12, 3, mi_o), (83, .aload_n 0, 1, mi_o), (84, .getfield 26, 3, 8, 3, 0, 0, 145), (87, .getfield 197, 3, 7, 7, 0, 0, 86), (90, .iload_n 3, 1, mi_o), (91, .iaload, 1, mi_o)]), (100000, [(92, .ireturn, 1, mi_o)])]
noncomputable def mi_c94 : List (Nat × mi_I) := ft_flat ft_94
noncomputable def ft_95 : List (Nat × List (Nat × mi_I)) := [(9, [(0, .aload_n 0, 1, mi_o), (1, .iload_n 2, 1, mi_o), (2, .invokevirtual 200, 3, 124, 0, 9, 0, 254), (5, .ifCond .ne 5, 3, mi_o), (8, .iconst (-1), 1, mi_o)]), (16, [(9, .ireturn, 1, mi_o), (10, .aload_n 0, 1, mi_o), (11, .iload_n 1, 1, mi_o), (12, .invokevirtual 144, 3, 129, 0, 9, 0, 208), (15, .istore_n 3, 1, mi_o)]), (23, [(16, .iload_n 3, 1, mi_o), (17, .ifCond .ge 5, 3, mi_o), (20, .iload_n 3, 1, mi_o), (21, .ireturn, 1, mi_o), (22, .aload_n 0, 1, mi_o)]), (34, [(23, .getfield 26, 3, 8, 3, 0, 0, 145), (26, .aload_n 0, 1, mi_o), (27, .getfield 10, 3, 8, 0, 0, 0, 142), (30, .invokevirtual 147, 3, 59, 0, 9, 0, 211), (33, .aload_n 0, 1, mi_o)]), (46, [(34, .getfield 26, 3, 8, 3, 0, 0, 145), (37, .getfield 152, 3, 7, 0, 0, 0, 73), (40, .getfield 203, 3, 4, 13, 0, 0, 59), (43, .iload_n 2, 1, mi_o), (44, .bipush 10, 2, mi_o)]), (52, [(46, .idiv, 1, mi_o), (47, .aaload, 1, mi_o), (48, .iload_n 2, 1, mi_o), (49, .bipush 10, 2, mi_o), (51, .irem, 1, mi_o)]), (100000, [(52, .iaload, 1, mi_o), (53, .ireturn, 1, mi_o)])]
noncomputable def mi_c95 : List (Nat × mi_I) := ft_flat ft_95
noncomputable def ft_96 : List (Nat × List (Nat × mi_I)) := [(9, [(0, .iload_n 2, 1, mi_o), (1, .iconst 0, 1, mi_o), (2, .iconst 1, 1, mi_o), (3, .invokestatic 74, 3, 120, 0, 9, 0, 152), (6, .ifCond .ne 5, 3, mi_o)]), (16, [(9, .iconst (-1), 1, mi_o), (10, .ireturn, 1, mi_o), (11, .aload_n 0, 1, mi_o), (12, .iload_n 1, 1, mi_o), (13, .invokevirtual 144, 3, 129, 0, 9, 0, 208)]), (23, [(16, .istore_n 3, 1, mi_o), (17, .iload_n 3, 1, mi_o), (18, .ifCond .ge 5, 3, mi_o), (21, .iload_n 3, 1, mi_o), (22, .ireturn, 1, mi_o)]), (34, [(23, .aload_n 0, 1, mi_o), (24, .getfield 26, 3, 8, 3, 0, 0, 145), (27, .aload_n 0, 1, mi_o), (28, .getfield 10, 3, 8, 0, 0, 0, 142), (31, .invokevirtual 147, 3, 59, 0, 9, 0, 211)]), (45, [(34, .iload_n 2, 1, mi_o), (35, .ifCond .ne 13, 3, mi_o), (38, .aload_n 0, 1, mi_o), (39, .getfield 26, 3, 8, 3, 0, 0, 145), (42, .invokevirtual 207, 3, 71, 0, 9, 0, 256)]), (56, [(45, .goto 14, 3, mi_o), (48, .aload_n 0, 1, mi_o), (49, .getfield 26, 3, 8, 3, 0, 0, 145), (52, .aload_n 0, 1, mi_o), (53, .getfield 10, 3, 8, 0, 0, 0, 142)]), (100000, [(56, .invokevirtual 210, 3, 72, 0, 9, 0, 258), (59, .ireturn, 1, mi_o)])]
noncomputable def mi_c96 : List (Nat × mi_I) := ft_flat ft_96
noncomputable def ft_97 : List (Nat × List (Nat × mi_I)) := [(10, [(0, .iload_n 1, 1, mi_o), (1, .invokestatic 214, 3, 122, 0, 9, 0, 260), (4, .ifCond .ne 5, 3, mi_o), (7, .iconst (-1), 1, mi_o), (8, .ireturn, 1, mi_o), (9, .aload_n 0, 1, mi_o)]), (19, [(10, .iload_n 1, 1, mi_o), (11, .bipush 10, 2, mi_o), (13, .idiv, 1, mi_o), (14, .invokevirtual 144, 3, 129, 0, 9, 0, 208), (17, .istore_n 2, 1, mi_o), (18, .iload_n 2, 1, mi_o)]), (30, [(19, .ifCond .ne 12, 3, mi_o), (22, .aload_n 0, 1, mi_o), (23, .iload_n 1, 1, mi_o), (24, .bipush 10, 2, mi_o), (26, .irem, 1, mi_o), (27, .invokevirtual 217, 3, 127, 0, 9, 0, 209)]), (38, [(30, .istore_n 2, 1, mi_o), (31, .iload_n 2, 1, mi_o), (32, .ifCond .ge 5, 3, mi_o), (35, .iload_n 2, 1, mi_o), (36, .ireturn, 1, mi_o), (37, .aload_n 0, 1, mi_o)]), (52, [(38, .getfield 26, 3, 8, 3, 0, 0, 145), (41, .aload_n 0, 1, mi_o), (42, .getfield 10, 3, 8, 0, 0, 0, 142), (45, .invokevirtual 147, 3, 59, 0, 9, 0, 211), (48, .aload_n 0, 1, mi_o), (49, .getfield 26, 3, 8, 3, 0, 0, 145)]), (61, [(52, .aload_n 0, 1, mi_o), (53, .getfield 46, 3, 8, 6, 0, 0, 148), (56, .iload_n 1, 1, mi_o), (57, .bipush 10, 2, mi_o), (59, .irem, 1, mi_o), (60, .aaload, 1, mi_o)]), (100000, [(61, .invokevirtual 220, 3, 73, 0, 9, 0, 261), (64, .ireturn, 1, mi_o)])]
noncomputable def mi_c97 : List (Nat × mi_I) := ft_flat ft_97
noncomputable def ft_98 : List (Nat × List (Nat × mi_I)) := [(17, [(0, .iload_n 1, 1, mi_o), (1, .invokestatic 214, 3, 122, 0, 9, 0, 260), (4, .ifCond .eq 16, 3, mi_o), (7, .iload_n 3, 1, mi_o), (8, .iconst 0, 1, mi_o), (9, .iconst 3, 1, mi_o), (10, .invokestatic 74, 3, 120, 0, 9, 0, 152), (13, .ifCond .eq 7, 3, mi_o), (16, .iload_n 2, 1, mi_o)]), (32, [(17, .ifCond .ge 5, 3, mi_o), (20, .iconst (-1), 1, mi_o), (21, .ireturn, 1, mi_o), (22, .iload_n 3, 1, mi_o), (23, .ifCond .ne 7, 3, mi_o), (26, .iload_n 2, 1, mi_o), (27, .ifCond .ne 16, 3, mi_o), (30, .iload_n 3, 1, mi_o), (31, .iconst 2, 1, mi_o)]), (47, [(32, .if_icmp .lt 13, 3, mi_o), (35, .aload_n 0, 1, mi_o), (36, .iload_n 2, 1, mi_o), (37, .invokevirtual 141, 3, 123, 0, 9, 0, 162), (40, .ifCond .ne 5, 3, mi_o), (43, .iconst (-1), 1, mi_o), (44, .ireturn, 1, mi_o), (45, .aload_n 0, 1, mi_o), (46, .iload_n 1, 1, mi_o)]), (64, [(47, .bipush 10, 2, mi_o), (49, .idiv, 1, mi_o), (50, .invokevirtual 144, 3, 129, 0, 9, 0, 208), (53, .istore 4, 2, mi_o), (55, .iload 4, 2, mi_o), (57, .ifCond .ge 6, 3, mi_o), (60, .iload 4, 2, mi_o), (62, .ireturn, 1, mi_o), (63, .iload_n 3, 1, mi_o)]), (81, [(64, .iconst 1, 1, mi_o), (65, .if_icmp .ne 16, 3, mi_o), (68, .iload_n 2, 1, mi_o), (69, .aload_n 0, 1, mi_o), (70, .getfield 26, 3, 8, 3, 0, 0, 145), (73, .getfield 151, 3, 7, 2, 0, 0, 76), (76, .if_icmp .lt 5, 3, mi_o), (79, .iconst (-1), 1, mi_o), (80, .ireturn, 1, mi_o)]), (98, [(81, .aload_n 0, 1, mi_o), (82, .iload_n 1, 1, mi_o), (83, .bipush 10, 2, mi_o), (85, .irem, 1, mi_o), (86, .invokevirtual 217, 3, 127, 0, 9, 0, 209), (89, .istore 4, 2, mi_o), (91, .iload 4, 2, mi_o), (93, .ifCond .ge 6, 3, mi_o), (96, .iload 4, 2, mi_o)]), (111, [(98, .ireturn, 1, mi_o), (99, .aload_n 0, 1, mi_o), (100, .getfield 46, 3, 8, 6, 0, 0, 148), (103, .iload_n 1, 1, mi_o), (104, .bipush 10, 2, mi_o), (106, .irem, 1, mi_o), (107, .aaload, 1, mi_o), (108, .astore 5, 2, mi_o), (110, .iload_n 3, 1, mi_o)]), (151, [(111, .tableswitch 72 0 2 #[25, 39, 54], 25, mi_o), (136, .aload_n 0, 1, mi_o), (137, .getfield 26, 3, 8, 3, 0, 0, 145), (140, .aload_n 0, 1, mi_o), (141, .getfield 10, 3, 8, 0, 0, 0, 142), (144, .aload 5, 2, mi_o), (146, .invokevirtual 224, 3, 74, 0, 9, 0, 264), (149, .ireturn, 1, mi_o), (150, .aload_n 0, 1, mi_o)]), (169, [(151, .getfield 26, 3, 8, 3, 0, 0, 145), (154, .aload_n 0, 1, mi_o), (155, .getfield 10, 3, 8, 0, 0, 0, 142), (158, .aload 5, 2, mi_o), (160, .iload_n 2, 1, mi_o), (161, .invokevirtual 228, 3, 75, 0, 9, 0, 266), (164, .ireturn, 1, mi_o), (165, .aload_n 0, 1, mi_o), (166, .getfield 26, 3, 8, 3, 0, 0, 145)]), (187, [(169, .aload_n 0, 1, mi_o), (170, .getfield 10, 3, 8, 0, 0, 0, 142), (173, .aload 5, 2, mi_o), (175, .iload_n 2, 1, mi_o), (176, .invokevirtual 232, 3, 76, 0, 9, 0, 267), (179, .invokestatic 188, 3, 226, 0, 9, 0, 247), (182, .ireturn, 1, mi_o), (183, .aload_n 0, 1, mi_o), (184, .getfield 26, 3, 8, 3, 0, 0, 145)]), (100000, [(187, .aload_n 0, 1, mi_o), (188, .getfield 10, 3, 8, 0, 0, 0, 142), (191, .aload 5, 2, mi_o), (193, .iload_n 2, 1, mi_o), (194, .invokevirtual 232, 3, 76, 0, 9, 0, 267), (197, .invokestatic 235, 3, 99, 0, 9, 0, 271), (200, .ireturn, 1, mi_o)])]
noncomputable def mi_c98 : List (Nat × mi_I) := ft_flat ft_98
noncomputable def ft_99 : List (Nat × List (Nat × mi_I)) := [(5, [(0, .iconst 0, 1, mi_o), (1, .istore_n 1, 1, mi_o), (2, .iload_n 1, 1, mi_o), (3, .bipush 32, 2, mi_o)]), (11, [(5, .if_icmp .ge 20, 3, mi_o), (8, .iload_n 0, 1, mi_o), (9, .iload_n 1, 1, mi_o), (10, .ishr, 1, mi_o)]), (17, [(11, .iconst 1, 1, mi_o), (12, .iand, 1, mi_o), (13, .iconst 1, 1, mi_o), (14, .if_icmp .ne 5, 3, mi_o)]), (25, [(17, .iload_n 1, 1, mi_o), (18, .ireturn, 1, mi_o), (19, .iinc 1 1, 3, mi_o), (22, .goto (-20), 3, mi_o)]), (100000, [(25, .bipush (-2), 2, mi_o), (27, .ireturn, 1, mi_o)])]
noncomputable def mi_c99 : List (Nat × mi_I) := ft_flat ft_99
noncomputable def ft_100 : List (Nat × List (Nat × mi_I)) := [(11, [(0, .aload_n 0, 1, mi_o), (1, .iload_n 1, 1, mi_o), (2, .invokevirtual 200, 3, 124, 0, 9, 0, 254), (5, .ifCond .eq 21, 3, mi_o), (8, .iload_n 2, 1, mi_o), (9, .iconst 1, 1, mi_o), (10, .iconst 5, 1, mi_o)]), (26, [(11, .invokestatic 74, 3, 120, 0, 9, 0, 152), (14, .ifCond .eq 12, 3, mi_o), (17, .iload_n 3, 1, mi_o), (18, .iconst 0, 1, mi_o), (19, .iconst 1, 1, mi_o), (20, .invokestatic 74, 3, 120, 0, 9, 0, 152), (23, .ifCond .ne 6, 3, mi_o)]), (38, [(26, .ldc 238, 2, 0, 0, 6, -2000000000, 273), (28, .ireturn, 1, mi_o), (29, .aload_n 0, 1, mi_o), (30, .getfield 26, 3, 8, 3, 0, 0, 145), (33, .aload_n 0, 1, mi_o), (34, .getfield 10, 3, 8, 0, 0, 0, 142), (37, .iload_n 1, 1, mi_o)]), (49, [(38, .bipush 10, 2, mi_o), (40, .idiv, 1, mi_o), (41, .iload_n 1, 1, mi_o), (42, .bipush 10, 2, mi_o), (44, .irem, 1, mi_o), (45, .iload_n 2, 1, mi_o), (46, .invokevirtual 239, 3, 77, 0, 9, 0, 274)]), (61, [(49, .aload_n 0, 1, mi_o), (50, .getfield 26, 3, 8, 3, 0, 0, 145), (53, .getfield 243, 3, 7, 8, 0, 0, 88), (56, .iconst 0, 1, mi_o), (57, .iaload, 1, mi_o), (58, .istore 4, 2, mi_o), (60, .aload_n 0, 1, mi_o)]), (73, [(61, .getfield 26, 3, 8, 3, 0, 0, 145), (64, .getfield 243, 3, 7, 8, 0, 0, 88), (67, .iconst 1, 1, mi_o), (68, .iaload, 1, mi_o), (69, .istore 5, 2, mi_o), (71, .iload_n 3, 1, mi_o), (72, .iconst 1, 1, mi_o)]), (88, [(73, .if_icmp .ne 16, 3, mi_o), (76, .iload 5, 2, mi_o), (78, .iload 4, 2, mi_o), (80, .if_icmp .le 7, 3, mi_o), (83, .iconst 1, 1, mi_o), (84, .goto 4, 3, mi_o), (87, .iconst 0, 1, mi_o)]), (100000, [(88, .ireturn, 1, mi_o), (89, .iload 5, 2, mi_o), (91, .iload 4, 2, mi_o), (93, .invokestatic 246, 3, 0, 0, 14, 0, 276), (96, .ireturn, 1, mi_o)])]
noncomputable def mi_c100 : List (Nat × mi_I) := ft_flat ft_100
noncomputable def ft_101 : List (Nat × List (Nat × mi_I)) := [(13, [(0, .iload_n 2, 1, mi_o), (1, .sipush 10000, 3, mi_o), (4, .idiv, 1, mi_o), (5, .istore 4, 2, mi_o), (7, .iload_n 2, 1, mi_o), (8, .bipush 100, 2, mi_o), (10, .idiv, 1, mi_o), (11, .bipush 100, 2, mi_o)]), (26, [(13, .irem, 1, mi_o), (14, .istore 5, 2, mi_o), (16, .iload_n 2, 1, mi_o), (17, .bipush 100, 2, mi_o), (19, .irem, 1, mi_o), (20, .istore 6, 2, mi_o), (22, .iload_n 2, 1, mi_o), (23, .ifCond .lt 36, 3, mi_o)]), (42, [(26, .iload 4, 2, mi_o), (28, .iconst 1, 1, mi_o), (29, .bipush 30, 2, mi_o), (31, .invokestatic 74, 3, 120, 0, 9, 0, 152), (34, .ifCond .eq 25, 3, mi_o), (37, .iload 5, 2, mi_o), (39, .iconst 1, 1, mi_o), (40, .bipush 60, 2, mi_o)]), (60, [(42, .invokestatic 74, 3, 120, 0, 9, 0, 152), (45, .ifCond .eq 14, 3, mi_o), (48, .iload 6, 2, mi_o), (50, .iconst 0, 1, mi_o), (51, .bipush 12, 2, mi_o), (53, .invokestatic 74, 3, 120, 0, 9, 0, 152), (56, .ifCond .ne 5, 3, mi_o), (59, .iconst (-1), 1, mi_o)]), (74, [(60, .ireturn, 1, mi_o), (61, .iload_n 3, 1, mi_o), (62, .iconst (-1), 1, mi_o), (63, .if_icmp .eq 13, 3, mi_o), (66, .aload_n 0, 1, mi_o), (67, .iload_n 3, 1, mi_o), (68, .invokevirtual 141, 3, 123, 0, 9, 0, 162), (71, .ifCond .ne 5, 3, mi_o)]), (85, [(74, .iconst (-1), 1, mi_o), (75, .ireturn, 1, mi_o), (76, .iconst 0, 1, mi_o), (77, .istore 7, 2, mi_o), (79, .iload_n 1, 1, mi_o), (80, .istore 8, 2, mi_o), (82, .iconst 0, 1, mi_o), (83, .istore 9, 2, mi_o)]), (102, [(85, .iload 9, 2, mi_o), (87, .iload 4, 2, mi_o), (89, .if_icmp .ge 41, 3, mi_o), (92, .aload_n 0, 1, mi_o), (93, .getfield 26, 3, 8, 3, 0, 0, 145), (96, .aload_n 0, 1, mi_o), (97, .getfield 10, 3, 8, 0, 0, 0, 142), (100, .iload 8, 2, mi_o)]), (118, [(102, .iload 5, 2, mi_o), (104, .iload 6, 2, mi_o), (106, .invokevirtual 251, 3, 78, 0, 9, 0, 278), (109, .istore 8, 2, mi_o), (111, .iload 7, 2, mi_o), (113, .aload_n 0, 1, mi_o), (114, .getfield 26, 3, 8, 3, 0, 0, 145), (117, .iload_n 3, 1, mi_o)]), (100000, [(118, .invokevirtual 171, 3, 62, 0, 9, 0, 233), (121, .iadd, 1, mi_o), (122, .istore 7, 2, mi_o), (124, .iinc 9 1, 3, mi_o), (127, .goto (-42), 3, mi_o), (130, .iload 7, 2, mi_o), (132, .ireturn, 1, mi_o)])]
noncomputable def mi_c101 : List (Nat × mi_I) := ft_flat ft_101
noncomputable def ft_102 : List (Nat × List (Nat × mi_I)) := [(8, [(0, .aload_n 0, 1, mi_o), (1, .iload_n 1, 1, mi_o), (2, .invokevirtual 141, 3, 123, 0, 9, 0, 162), (5, .ifCond .eq 14, 3, mi_o)]), (16, [(8, .aload_n 0, 1, mi_o), (9, .getfield 10, 3, 8, 0, 0, 0, 142), (12, .iload_n 1, 1, mi_o), (13, .invokevirtual 255, 3, 29, 0, 9, 0, 281)]), (100000, [(16, .goto 4, 3, mi_o), (19, .iconst (-1), 1, mi_o), (20, .ireturn, 1, mi_o)])]
noncomputable def mi_c102 : List (Nat × mi_I) := ft_flat ft_102
noncomputable def ft_103 : List (Nat × List (Nat × mi_I)) := [(8, [(0, .aload_n 0, 1, mi_o), (1, .getfield 10, 3, 8, 0, 0, 0, 142), (4, .invokevirtual 258, 3, 32, 0, 9, 0, 283), (7, .aload_n 0, 1, mi_o)]), (100000, [(8, .getfield 10, 3, 8, 0, 0, 0, 142), (11, .getfield 261, 3, 4, 8, 0, 0, 48), (14, .ireturn, 1, mi_o)])]
noncomputable def mi_c103 : List (Nat × mi_I) := ft_flat ft_103
noncomputable def ft_104 : List (Nat × List (Nat × mi_I)) := [(16, [(0, .aload_n 0, 1, mi_o), (1, .iload_n 1, 1, mi_o), (2, .invokevirtual 141, 3, 123, 0, 9, 0, 162), (5, .ifCond .eq 27, 3, mi_o), (8, .aload_n 0, 1, mi_o), (9, .iload_n 2, 1, mi_o), (10, .invokevirtual 141, 3, 123, 0, 9, 0, 162), (13, .ifCond .eq 19, 3, mi_o)]), (32, [(16, .iload_n 1, 1, mi_o), (17, .iload_n 2, 1, mi_o), (18, .if_icmp .eq 14, 3, mi_o), (21, .iload_n 3, 1, mi_o), (22, .iconst 1, 1, mi_o), (23, .sipush 999, 3, mi_o), (26, .invokestatic 74, 3, 120, 0, 9, 0, 152), (29, .ifCond .ne 5, 3, mi_o)]), (44, [(32, .iconst (-1), 1, mi_o), (33, .ireturn, 1, mi_o), (34, .aload_n 0, 1, mi_o), (35, .getfield 10, 3, 8, 0, 0, 0, 142), (38, .getfield 264, 3, 4, 1, 0, 0, 39), (41, .iload_n 1, 1, mi_o), (42, .iaload, 1, mi_o), (43, .iload_n 3, 1, mi_o)]), (59, [(44, .if_icmp .ge 6, 3, mi_o), (47, .bipush (-5), 2, mi_o), (49, .ireturn, 1, mi_o), (50, .aload_n 0, 1, mi_o), (51, .getfield 10, 3, 8, 0, 0, 0, 142), (54, .getfield 264, 3, 4, 1, 0, 0, 39), (57, .iload_n 1, 1, mi_o), (58, .dup2, 1, mi_o)]), (71, [(59, .iaload, 1, mi_o), (60, .iload_n 3, 1, mi_o), (61, .isub, 1, mi_o), (62, .iastore, 1, mi_o), (63, .aload_n 0, 1, mi_o), (64, .getfield 10, 3, 8, 0, 0, 0, 142), (67, .getfield 264, 3, 4, 1, 0, 0, 39), (70, .iload_n 2, 1, mi_o)]), (85, [(71, .sipush 999, 3, mi_o), (74, .aload_n 0, 1, mi_o), (75, .getfield 10, 3, 8, 0, 0, 0, 142), (78, .getfield 264, 3, 4, 1, 0, 0, 39), (81, .iload_n 2, 1, mi_o), (82, .iaload, 1, mi_o), (83, .iload_n 3, 1, mi_o), (84, .iadd, 1, mi_o)]), (99, [(85, .invokestatic 267, 3, 0, 0, 15, 0, 285), (88, .iastore, 1, mi_o), (89, .aload_n 0, 1, mi_o), (90, .getfield 10, 3, 8, 0, 0, 0, 142), (93, .getfield 155, 3, 4, 12, 0, 0, 56), (96, .iconst 4, 1, mi_o), (97, .dup2, 1, mi_o), (98, .iaload, 1, mi_o)]), (111, [(99, .iload_n 3, 1, mi_o), (100, .iadd, 1, mi_o), (101, .iastore, 1, mi_o), (102, .aload_n 0, 1, mi_o), (103, .getfield 10, 3, 8, 0, 0, 0, 142), (106, .getfield 264, 3, 4, 1, 0, 0, 39), (109, .iload_n 1, 1, mi_o), (110, .iaload, 1, mi_o)]), (100000, [(111, .ireturn, 1, mi_o)])]
noncomputable def mi_c104 : List (Nat × mi_I) := ft_flat ft_104
noncomputable def ft_105 : List (Nat × List (Nat × mi_I)) := [(6, [(0, .iload_n 1, 1, mi_o), (1, .iconst 0, 1, mi_o), (2, .iconst 4, 1, mi_o), (3, .invokestatic 74, 3, 120, 0, 9, 0, 152)]), (16, [(6, .ifCond .eq 15, 3, mi_o), (9, .aload_n 0, 1, mi_o), (10, .getfield 10, 3, 8, 0, 0, 0, 142), (13, .getfield 155, 3, 4, 12, 0, 0, 56)]), (22, [(16, .iload_n 1, 1, mi_o), (17, .iaload, 1, mi_o), (18, .goto 4, 3, mi_o), (21, .iconst (-1), 1, mi_o)]), (100000, [(22, .ireturn, 1, mi_o)])]
noncomputable def mi_c105 : List (Nat × mi_I) := ft_flat ft_105
noncomputable def ft_106 : List (Nat × List (Nat × mi_I)) := [(8, [(0, .aload_n 0, 1, mi_o), (1, .getfield 16, 3, 8, 1, 0, 0, 143), (4, .aload_n 0, 1, mi_o), (5, .getfield 10, 3, 8, 0, 0, 0, 142)]), (18, [(8, .getfield 62, 3, 4, 0, 0, 0, 35), (11, .putfield 62, 3, 4, 0, 0, 0, 35), (14, .aload_n 0, 1, mi_o), (15, .getfield 16, 3, 8, 1, 0, 0, 143)]), (26, [(18, .aload_n 0, 1, mi_o), (19, .getfield 10, 3, 8, 0, 0, 0, 142), (22, .aload_n 0, 1, mi_o), (23, .getfield 10, 3, 8, 0, 0, 0, 142)]), (34, [(26, .getfield 62, 3, 4, 0, 0, 0, 35), (29, .invokevirtual 270, 3, 33, 0, 9, 0, 288), (32, .aload_n 0, 1, mi_o), (33, .iconst 1, 1, mi_o)]), (44, [(34, .putfield 19, 3, 8, 2, 0, 0, 144), (37, .aload_n 0, 1, mi_o), (38, .getfield 10, 3, 8, 0, 0, 0, 142), (41, .getfield 155, 3, 4, 12, 0, 0, 56)]), (100000, [(44, .iconst 0, 1, mi_o), (45, .iaload, 1, mi_o), (46, .ireturn, 1, mi_o)])]
noncomputable def mi_c106 : List (Nat × mi_I) := ft_flat ft_106
noncomputable def ft_107 : List (Nat × List (Nat × mi_I)) := [(9, [(0, .aload_n 0, 1, mi_o), (1, .getfield 19, 3, 8, 2, 0, 0, 144), (4, .ifCond .ne 6, 3, mi_o), (7, .bipush (-5), 2, mi_o)]), (15, [(9, .ireturn, 1, mi_o), (10, .aload_n 0, 1, mi_o), (11, .getfield 10, 3, 8, 0, 0, 0, 142), (14, .aload_n 0, 1, mi_o)]), (25, [(15, .getfield 16, 3, 8, 1, 0, 0, 143), (18, .aload_n 0, 1, mi_o), (19, .getfield 16, 3, 8, 1, 0, 0, 143), (22, .getfield 62, 3, 4, 0, 0, 0, 35)]), (35, [(25, .invokevirtual 270, 3, 33, 0, 9, 0, 288), (28, .aload_n 0, 1, mi_o), (29, .getfield 10, 3, 8, 0, 0, 0, 142), (32, .getfield 155, 3, 4, 12, 0, 0, 56)]), (100000, [(35, .iconst 0, 1, mi_o), (36, .iaload, 1, mi_o), (37, .ireturn, 1, mi_o)])]
noncomputable def mi_c107 : List (Nat × mi_I) := ft_flat ft_107
noncomputable def ft_108 : List (Nat × List (Nat × mi_I)) := [(13, [(0, .aload_n 0, 1, mi_o), (1, .getfield 33, 3, 8, 4, 0, 0, 146), (4, .getfield 273, 3, 1, 5, 0, 0, 104), (7, .ifCond .gt 6, 3, mi_o), (10, .bipush (-5), 2, mi_o), (12, .ireturn, 1, mi_o)]), (23, [(13, .aload_n 0, 1, mi_o), (14, .getfield 33, 3, 8, 4, 0, 0, 146), (17, .dup, 1, mi_o), (18, .getfield 273, 3, 1, 5, 0, 0, 104), (21, .iconst 1, 1, mi_o), (22, .isub, 1, mi_o)]), (35, [(23, .putfield 273, 3, 1, 5, 0, 0, 104), (26, .aload_n 0, 1, mi_o), (27, .getfield 33, 3, 8, 4, 0, 0, 146), (30, .getfield 273, 3, 1, 5, 0, 0, 104), (33, .istore_n 1, 1, mi_o), (34, .aload_n 0, 1, mi_o)]), (47, [(35, .getfield 10, 3, 8, 0, 0, 0, 142), (38, .aload_n 0, 1, mi_o), (39, .getfield 33, 3, 8, 4, 0, 0, 146), (42, .getfield 276, 3, 1, 0, 0, 0, 94), (45, .iload_n 1, 1, mi_o), (46, .iaload, 1, mi_o)]), (57, [(47, .aload_n 0, 1, mi_o), (48, .getfield 33, 3, 8, 4, 0, 0, 146), (51, .getfield 278, 3, 1, 1, 0, 0, 96), (54, .iload_n 1, 1, mi_o), (55, .iaload, 1, mi_o), (56, .aload_n 0, 1, mi_o)]), (69, [(57, .getfield 33, 3, 8, 4, 0, 0, 146), (60, .getfield 281, 3, 1, 2, 0, 0, 98), (63, .iload_n 1, 1, mi_o), (64, .iaload, 1, mi_o), (65, .invokevirtual 102, 3, 28, 0, 9, 0, 167), (68, .aload_n 0, 1, mi_o)]), (100000, [(69, .getfield 33, 3, 8, 4, 0, 0, 146), (72, .getfield 273, 3, 1, 5, 0, 0, 104), (75, .ireturn, 1, mi_o)])]
noncomputable def mi_c108 : List (Nat × mi_I) := ft_flat ft_108
noncomputable def ft_109 : List (Nat × List (Nat × mi_I)) := [(14, [(0, .aload_n 0, 1, mi_o), (1, .getfield 33, 3, 8, 4, 0, 0, 146), (4, .getfield 273, 3, 1, 5, 0, 0, 104), (7, .aload_n 0, 1, mi_o), (8, .getfield 33, 3, 8, 4, 0, 0, 146), (11, .getfield 284, 3, 1, 4, 0, 0, 102)]), (27, [(14, .if_icmp .lt 6, 3, mi_o), (17, .bipush (-5), 2, mi_o), (19, .ireturn, 1, mi_o), (20, .aload_n 0, 1, mi_o), (21, .getfield 33, 3, 8, 4, 0, 0, 146), (24, .getfield 273, 3, 1, 5, 0, 0, 104)]), (39, [(27, .istore_n 1, 1, mi_o), (28, .aload_n 0, 1, mi_o), (29, .getfield 10, 3, 8, 0, 0, 0, 142), (32, .aload_n 0, 1, mi_o), (33, .getfield 33, 3, 8, 4, 0, 0, 146), (36, .getfield 276, 3, 1, 0, 0, 0, 94)]), (49, [(39, .iload_n 1, 1, mi_o), (40, .iaload, 1, mi_o), (41, .aload_n 0, 1, mi_o), (42, .getfield 33, 3, 8, 4, 0, 0, 146), (45, .getfield 278, 3, 1, 1, 0, 0, 96), (48, .iload_n 1, 1, mi_o)]), (59, [(49, .iaload, 1, mi_o), (50, .aload_n 0, 1, mi_o), (51, .getfield 33, 3, 8, 4, 0, 0, 146), (54, .getfield 287, 3, 1, 3, 0, 0, 100), (57, .iload_n 1, 1, mi_o), (58, .iaload, 1, mi_o)]), (71, [(59, .invokevirtual 102, 3, 28, 0, 9, 0, 167), (62, .aload_n 0, 1, mi_o), (63, .getfield 33, 3, 8, 4, 0, 0, 146), (66, .dup, 1, mi_o), (67, .getfield 273, 3, 1, 5, 0, 0, 104), (70, .iconst 1, 1, mi_o)]), (83, [(71, .iadd, 1, mi_o), (72, .putfield 273, 3, 1, 5, 0, 0, 104), (75, .aload_n 0, 1, mi_o), (76, .getfield 33, 3, 8, 4, 0, 0, 146), (79, .getfield 284, 3, 1, 4, 0, 0, 102), (82, .aload_n 0, 1, mi_o)]), (100000, [(83, .getfield 33, 3, 8, 4, 0, 0, 146), (86, .getfield 273, 3, 1, 5, 0, 0, 104), (89, .isub, 1, mi_o), (90, .ireturn, 1, mi_o)])]
noncomputable def mi_c109 : List (Nat × mi_I) := ft_flat ft_109
noncomputable def ft_110 : List (Nat × List (Nat × mi_I)) := [(7, [(0, .iload_n 1, 1, mi_o), (1, .iconst 0, 1, mi_o), (2, .bipush 7, 2, mi_o), (4, .invokestatic 74, 3, 120, 0, 9, 0, 152)]), (13, [(7, .ifCond .ne 5, 3, mi_o), (10, .iconst (-1), 1, mi_o), (11, .ireturn, 1, mi_o), (12, .aload_n 0, 1, mi_o)]), (24, [(13, .getfield 40, 3, 8, 5, 0, 0, 147), (16, .getfield 290, 3, 2, 1, 0, 0, 111), (19, .bipush 50, 2, mi_o), (21, .if_icmp .lt 8, 3, mi_o)]), (33, [(24, .bipush (-3), 2, mi_o), (26, .goto 11, 3, mi_o), (29, .aload_n 0, 1, mi_o), (30, .getfield 40, 3, 8, 5, 0, 0, 147)]), (100000, [(33, .iload_n 1, 1, mi_o), (34, .invokevirtual 291, 3, 9, 0, 9, 0, 293), (37, .ireturn, 1, mi_o)])]
noncomputable def mi_c110 : List (Nat × mi_I) := ft_flat ft_110
noncomputable def ft_111 : List (Nat × List (Nat × mi_I)) := [(6, [(0, .aload_n 0, 1, mi_o), (1, .getfield 40, 3, 8, 5, 0, 0, 147), (4, .iload_n 1, 1, mi_o), (5, .iload_n 2, 1, mi_o)]), (100000, [(6, .iload_n 3, 1, mi_o), (7, .invokevirtual 292, 3, 12, 0, 9, 0, 295), (10, .ireturn, 1, mi_o)])]
noncomputable def mi_c111 : List (Nat × mi_I) := ft_flat ft_111
noncomputable def ft_112 : List (Nat × List (Nat × mi_I)) := [(6, [(0, .iload_n 1, 1, mi_o), (1, .iconst 0, 1, mi_o), (2, .aload_n 0, 1, mi_o), (3, .getfield 40, 3, 8, 5, 0, 0, 147)]), (15, [(6, .getfield 295, 3, 2, 3, 0, 0, 115), (9, .bipush 24, 2, mi_o), (11, .invokestatic 267, 3, 0, 0, 15, 0, 285), (14, .iconst 1, 1, mi_o)]), (23, [(15, .isub, 1, mi_o), (16, .invokestatic 74, 3, 120, 0, 9, 0, 152), (19, .ifCond .eq 15, 3, mi_o), (22, .aload_n 0, 1, mi_o)]), (31, [(23, .getfield 40, 3, 8, 5, 0, 0, 147), (26, .getfield 298, 3, 2, 2, 0, 0, 113), (29, .iload_n 1, 1, mi_o), (30, .iaload, 1, mi_o)]), (100000, [(31, .goto 4, 3, mi_o), (34, .iconst (-1), 1, mi_o), (35, .ireturn, 1, mi_o)])]
noncomputable def mi_c112 : List (Nat × mi_I) := ft_flat ft_112
noncomputable def ft_113 : List (Nat × List (Nat × mi_I)) := [(8, [(0, .iload_n 1, 1, mi_o), (1, .invokestatic 70, 3, 121, 0, 9, 0, 157), (4, .ifCond .eq 19, 3, mi_o), (7, .iload_n 2, 1, mi_o)]), (16, [(8, .iconst (-1), 1, mi_o), (9, .if_icmp .eq 16, 3, mi_o), (12, .aload_n 0, 1, mi_o), (13, .getfield 40, 3, 8, 5, 0, 0, 147)]), (24, [(16, .iload_n 2, 1, mi_o), (17, .invokevirtual 301, 3, 8, 0, 9, 0, 304), (20, .ifCond .ne 5, 3, mi_o), (23, .iconst (-1), 1, mi_o)]), (30, [(24, .ireturn, 1, mi_o), (25, .aload_n 0, 1, mi_o), (26, .getfield 46, 3, 8, 6, 0, 0, 148), (29, .iload_n 1, 1, mi_o)]), (36, [(30, .aaload, 1, mi_o), (31, .iload_n 2, 1, mi_o), (32, .invokevirtual 304, 3, 38, 0, 9, 0, 305), (35, .iconst 1, 1, mi_o)]), (100000, [(36, .ireturn, 1, mi_o)])]
noncomputable def mi_c113 : List (Nat × mi_I) := ft_flat ft_113
noncomputable def ft_114 : List (Nat × List (Nat × mi_I)) := [(9, [(0, .iload_n 1, 1, mi_o), (1, .invokestatic 70, 3, 121, 0, 9, 0, 157), (4, .ifCond .eq 18, 3, mi_o), (7, .iload_n 2, 1, mi_o), (8, .iconst 0, 1, mi_o)]), (19, [(9, .iconst 4, 1, mi_o), (10, .invokestatic 74, 3, 120, 0, 9, 0, 152), (13, .ifCond .eq 9, 3, mi_o), (16, .iload_n 3, 1, mi_o), (17, .bipush 60, 2, mi_o)]), (28, [(19, .if_icmp .le 5, 3, mi_o), (22, .iconst (-1), 1, mi_o), (23, .ireturn, 1, mi_o), (24, .iload_n 3, 1, mi_o), (25, .ifCond .ge 6, 3, mi_o)]), (36, [(28, .bipush (-14), 2, mi_o), (30, .ireturn, 1, mi_o), (31, .aload_n 0, 1, mi_o), (32, .getfield 46, 3, 8, 6, 0, 0, 148), (35, .iload_n 1, 1, mi_o)]), (43, [(36, .aaload, 1, mi_o), (37, .iload_n 2, 1, mi_o), (38, .iload_n 3, 1, mi_o), (39, .invokevirtual 308, 3, 39, 0, 9, 0, 307), (42, .iconst 1, 1, mi_o)]), (100000, [(43, .ireturn, 1, mi_o)])]
noncomputable def mi_c114 : List (Nat × mi_I) := ft_flat ft_114
noncomputable def ft_115 : List (Nat × List (Nat × mi_I)) := [(6, [(0, .aload_n 0, 1, mi_o), (1, .iload_n 1, 1, mi_o), (2, .iload_n 2, 1, mi_o), (3, .invokevirtual 312, 3, 128, 0, 9, 0, 311)]), (15, [(6, .istore 5, 2, mi_o), (8, .iload 5, 2, mi_o), (10, .ifCond .ge 6, 3, mi_o), (13, .iload 5, 2, mi_o)]), (21, [(15, .ireturn, 1, mi_o), (16, .aload_n 0, 1, mi_o), (17, .getfield 46, 3, 8, 6, 0, 0, 148), (20, .iload_n 1, 1, mi_o)]), (27, [(21, .aaload, 1, mi_o), (22, .getfield 91, 3, 5, 4, 0, 0, 141), (25, .iload_n 2, 1, mi_o), (26, .aload_n 0, 1, mi_o)]), (33, [(27, .getfield 46, 3, 8, 6, 0, 0, 148), (30, .iload_n 1, 1, mi_o), (31, .aaload, 1, mi_o), (32, .lload_n 3, 1, mi_o)]), (100000, [(33, .invokevirtual 315, 3, 40, 0, 9, 0, 312), (36, .lastore, 1, mi_o), (37, .iconst 1, 1, mi_o), (38, .ireturn, 1, mi_o)])]
noncomputable def mi_c115 : List (Nat × mi_I) := ft_flat ft_115
noncomputable def ft_116 : List (Nat × List (Nat × mi_I)) := [(6, [(0, .aload_n 0, 1, mi_o), (1, .iload_n 1, 1, mi_o), (2, .iload_n 2, 1, mi_o), (3, .invokevirtual 312, 3, 128, 0, 9, 0, 311)]), (16, [(6, .ifCond .ge 9, 3, mi_o), (9, .ldc2_w 319, 3, 0, 0, 7, -9223372036854775808, 314), (12, .goto 14, 3, mi_o), (15, .aload_n 0, 1, mi_o)]), (24, [(16, .getfield 46, 3, 8, 6, 0, 0, 148), (19, .iload_n 1, 1, mi_o), (20, .aaload, 1, mi_o), (21, .getfield 91, 3, 5, 4, 0, 0, 141)]), (100000, [(24, .iload_n 2, 1, mi_o), (25, .laload, 1, mi_o), (26, .lreturn, 1, mi_o)])]
noncomputable def mi_c116 : List (Nat × mi_I) := ft_flat ft_116
noncomputable def ft_117 : List (Nat × List (Nat × mi_I)) := [(15, [(0, .iload_n 1, 1, mi_o), (1, .invokestatic 70, 3, 121, 0, 9, 0, 157), (4, .ifCond .eq 10, 3, mi_o), (7, .iload_n 3, 1, mi_o), (8, .invokestatic 70, 3, 121, 0, 9, 0, 157), (11, .ifCond .ne 5, 3, mi_o), (14, .iconst (-1), 1, mi_o)]), (25, [(15, .ireturn, 1, mi_o), (16, .aload_n 0, 1, mi_o), (17, .getfield 46, 3, 8, 6, 0, 0, 148), (20, .iload_n 1, 1, mi_o), (21, .aaload, 1, mi_o), (22, .astore 6, 2, mi_o), (24, .aload_n 0, 1, mi_o)]), (40, [(25, .getfield 46, 3, 8, 6, 0, 0, 148), (28, .iload_n 3, 1, mi_o), (29, .aaload, 1, mi_o), (30, .astore 7, 2, mi_o), (32, .aload 6, 2, mi_o), (34, .getfield 78, 3, 5, 0, 0, 0, 131), (37, .ifCond .eq 11, 3, mi_o)]), (56, [(40, .aload 7, 2, mi_o), (42, .getfield 78, 3, 5, 0, 0, 0, 131), (45, .ifCond .ne 6, 3, mi_o), (48, .bipush (-11), 2, mi_o), (50, .ireturn, 1, mi_o), (51, .aload 6, 2, mi_o), (53, .getfield 78, 3, 5, 0, 0, 0, 131)]), (71, [(56, .iconst 2, 1, mi_o), (57, .if_icmp .ne 25, 3, mi_o), (60, .aload 7, 2, mi_o), (62, .getfield 78, 3, 5, 0, 0, 0, 131), (65, .iconst 2, 1, mi_o), (66, .if_icmp .ne 16, 3, mi_o), (69, .aload 6, 2, mi_o)]), (87, [(71, .getfield 321, 3, 5, 2, 0, 0, 135), (74, .aload 7, 2, mi_o), (76, .getfield 321, 3, 5, 2, 0, 0, 135), (79, .if_icmp .eq 6, 3, mi_o), (82, .bipush (-12), 2, mi_o), (84, .ireturn, 1, mi_o), (85, .aload 6, 2, mi_o)]), (102, [(87, .iload_n 2, 1, mi_o), (88, .iload 5, 2, mi_o), (90, .invokevirtual 324, 3, 37, 0, 9, 0, 316), (93, .ifCond .eq 15, 3, mi_o), (96, .aload 7, 2, mi_o), (98, .iload 4, 2, mi_o), (100, .iload 5, 2, mi_o)]), (117, [(102, .invokevirtual 324, 3, 37, 0, 9, 0, 316), (105, .ifCond .ne 6, 3, mi_o), (108, .bipush (-13), 2, mi_o), (110, .ireturn, 1, mi_o), (111, .aload 6, 2, mi_o), (113, .getfield 91, 3, 5, 4, 0, 0, 141), (116, .iload_n 2, 1, mi_o)]), (100000, [(117, .aload 7, 2, mi_o), (119, .getfield 91, 3, 5, 4, 0, 0, 141), (122, .iload 4, 2, mi_o), (124, .iload 5, 2, mi_o), (126, .invokestatic 327, 3, 0, 0, 11, 0, 317), (129, .iload 5, 2, mi_o), (131, .ireturn, 1, mi_o)])]
noncomputable def mi_c117 : List (Nat × mi_I) := ft_flat ft_117
noncomputable def ft_118 : List (Nat × List (Nat × mi_I)) := [(11, [(0, .iload_n 1, 1, mi_o), (1, .invokestatic 70, 3, 121, 0, 9, 0, 157), (4, .ifCond .eq 13, 3, mi_o), (7, .iload_n 2, 1, mi_o), (8, .iconst 0, 1, mi_o), (9, .bipush 7, 2, mi_o)]), (23, [(11, .invokestatic 74, 3, 120, 0, 9, 0, 152), (14, .ifCond .ne 5, 3, mi_o), (17, .iconst (-1), 1, mi_o), (18, .ireturn, 1, mi_o), (19, .aload_n 0, 1, mi_o), (20, .getfield 46, 3, 8, 6, 0, 0, 148)]), (33, [(23, .iload_n 1, 1, mi_o), (24, .aaload, 1, mi_o), (25, .astore_n 3, 1, mi_o), (26, .aload_n 3, 1, mi_o), (27, .getfield 78, 3, 5, 0, 0, 0, 131), (30, .ifCond .ne 6, 3, mi_o)]), (44, [(33, .bipush (-11), 2, mi_o), (35, .ireturn, 1, mi_o), (36, .aload_n 3, 1, mi_o), (37, .getfield 78, 3, 5, 0, 0, 0, 131), (40, .iconst 1, 1, mi_o), (41, .if_icmp .ne 17, 3, mi_o)]), (58, [(44, .aload_n 0, 1, mi_o), (45, .getfield 40, 3, 8, 5, 0, 0, 147), (48, .aload_n 3, 1, mi_o), (49, .getfield 333, 3, 5, 1, 0, 0, 133), (52, .invokevirtual 301, 3, 8, 0, 9, 0, 304), (55, .ifCond .ne 6, 3, mi_o)]), (69, [(58, .bipush (-12), 2, mi_o), (60, .ireturn, 1, mi_o), (61, .aload_n 0, 1, mi_o), (62, .getfield 40, 3, 8, 5, 0, 0, 147), (65, .getfield 336, 3, 2, 0, 0, 0, 109), (68, .aload_n 3, 1, mi_o)]), (81, [(69, .getfield 333, 3, 5, 1, 0, 0, 133), (72, .iaload, 1, mi_o), (73, .istore 4, 2, mi_o), (75, .iload 4, 2, mi_o), (77, .iload_n 2, 1, mi_o), (78, .invokestatic 339, 3, 10, 0, 9, 0, 319)]), (100000, [(81, .ifCond .eq 8, 3, mi_o), (84, .iload 4, 2, mi_o), (86, .goto 5, 3, mi_o), (89, .bipush (-12), 2, mi_o), (91, .ireturn, 1, mi_o)])]
noncomputable def mi_c118 : List (Nat × mi_I) := ft_flat ft_118
noncomputable def ft_119 : List (Nat × List (Nat × mi_I)) := [(47, [(0, .iload_n 1, 1, mi_o), (1, .tableswitch 90 0 5 #[39, 47, 58, 66, 74, 82], 39, mi_o), (40, .aload_n 0, 1, mi_o), (41, .getfield 10, 3, 8, 0, 0, 0, 142), (44, .getfield 62, 3, 4, 0, 0, 0, 35)]), (58, [(47, .ireturn, 1, mi_o), (48, .aload_n 0, 1, mi_o), (49, .getfield 10, 3, 8, 0, 0, 0, 142), (52, .getfield 125, 3, 4, 10, 0, 0, 51), (55, .getfield 129, 3, 0, 2, 0, 0, 17)]), (67, [(58, .ireturn, 1, mi_o), (59, .aload_n 0, 1, mi_o), (60, .getfield 53, 3, 8, 7, 0, 0, 149), (63, .getfield 109, 3, 6, 1, 0, 0, 124), (66, .ireturn, 1, mi_o)]), (76, [(67, .aload_n 0, 1, mi_o), (68, .getfield 33, 3, 8, 4, 0, 0, 146), (71, .getfield 273, 3, 1, 5, 0, 0, 104), (74, .ireturn, 1, mi_o), (75, .aload_n 0, 1, mi_o)]), (87, [(76, .getfield 40, 3, 8, 5, 0, 0, 147), (79, .getfield 290, 3, 2, 1, 0, 0, 111), (82, .ireturn, 1, mi_o), (83, .aload_n 0, 1, mi_o), (84, .getfield 40, 3, 8, 5, 0, 0, 147)]), (100000, [(87, .getfield 295, 3, 2, 3, 0, 0, 115), (90, .ireturn, 1, mi_o), (91, .iconst (-1), 1, mi_o), (92, .ireturn, 1, mi_o)])]
noncomputable def mi_c119 : List (Nat × mi_I) := ft_flat ft_119
noncomputable def ft_120 : List (Nat × List (Nat × mi_I)) := [(6, [(0, .iload_n 0, 1, mi_o), (1, .iload_n 1, 1, mi_o), (2, .if_icmp .lt 12, 3, mi_o), (5, .iload_n 0, 1, mi_o)]), (14, [(6, .iload_n 2, 1, mi_o), (7, .if_icmp .gt 7, 3, mi_o), (10, .iconst 1, 1, mi_o), (11, .goto 4, 3, mi_o)]), (100000, [(14, .iconst 0, 1, mi_o), (15, .ireturn, 1, mi_o)])]
noncomputable def mi_c120 : List (Nat × mi_I) := ft_flat ft_120
noncomputable def ft_121 : List (Nat × List (Nat × mi_I)) := [(6, [(0, .iload_n 0, 1, mi_o), (1, .iconst 0, 1, mi_o), (2, .iconst 5, 1, mi_o), (3, .invokestatic 74, 3, 120, 0, 9, 0, 152)]), (100000, [(6, .ireturn, 1, mi_o)])]
noncomputable def mi_c121 : List (Nat × mi_I) := ft_flat ft_121
noncomputable def ft_122 : List (Nat × List (Nat × mi_I)) := [(7, [(0, .iload_n 0, 1, mi_o), (1, .ifCond .lt 27, 3, mi_o), (4, .iload_n 0, 1, mi_o), (5, .bipush 10, 2, mi_o)]), (15, [(7, .idiv, 1, mi_o), (8, .invokestatic 70, 3, 121, 0, 9, 0, 157), (11, .ifCond .eq 17, 3, mi_o), (14, .iload_n 0, 1, mi_o)]), (24, [(15, .bipush 10, 2, mi_o), (17, .irem, 1, mi_o), (18, .invokestatic 70, 3, 121, 0, 9, 0, 157), (21, .ifCond .eq 7, 3, mi_o)]), (100000, [(24, .iconst 1, 1, mi_o), (25, .goto 4, 3, mi_o), (28, .iconst 0, 1, mi_o), (29, .ireturn, 1, mi_o)])]
noncomputable def mi_c122 : List (Nat × mi_I) := ft_flat ft_122
noncomputable def ft_123 : List (Nat × List (Nat × mi_I)) := [(8, [(0, .aload_n 0, 1, mi_o), (1, .getfield 10, 3, 8, 0, 0, 0, 142), (4, .iload_n 1, 1, mi_o), (5, .invokevirtual 342, 3, 24, 0, 9, 0, 163)]), (100000, [(8, .ireturn, 1, mi_o)])]
noncomputable def mi_c123 : List (Nat × mi_I) := ft_flat ft_123
noncomputable def ft_124 : List (Nat × List (Nat × mi_I)) := [(8, [(0, .iload_n 1, 1, mi_o), (1, .ifCond .lt 40, 3, mi_o), (4, .aload_n 0, 1, mi_o), (5, .iload_n 1, 1, mi_o), (6, .bipush 10, 2, mi_o)]), (17, [(8, .idiv, 1, mi_o), (9, .invokevirtual 141, 3, 123, 0, 9, 0, 162), (12, .ifCond .eq 29, 3, mi_o), (15, .aload_n 0, 1, mi_o), (16, .iload_n 1, 1, mi_o)]), (27, [(17, .bipush 10, 2, mi_o), (19, .irem, 1, mi_o), (20, .invokevirtual 141, 3, 123, 0, 9, 0, 162), (23, .ifCond .eq 18, 3, mi_o), (26, .iload_n 1, 1, mi_o)]), (34, [(27, .bipush 10, 2, mi_o), (29, .idiv, 1, mi_o), (30, .iload_n 1, 1, mi_o), (31, .bipush 10, 2, mi_o), (33, .irem, 1, mi_o)]), (100000, [(34, .if_icmp .eq 7, 3, mi_o), (37, .iconst 1, 1, mi_o), (38, .goto 4, 3, mi_o), (41, .iconst 0, 1, mi_o), (42, .ireturn, 1, mi_o)])]
noncomputable def mi_c124 : List (Nat × mi_I) := ft_flat ft_124
noncomputable def ft_125 : List (Nat × List (Nat × mi_I)) := [(6, [(0, .iload_n 2, 1, mi_o), (1, .ifCond .lt 16, 3, mi_o), (4, .iload_n 2, 1, mi_o), (5, .iconst 4, 1, mi_o)]), (14, [(6, .if_icmp .ge 11, 3, mi_o), (9, .aload_n 0, 1, mi_o), (10, .iload_n 1, 1, mi_o), (11, .invokevirtual 141, 3, 123, 0, 9, 0, 162)]), (22, [(14, .ifCond .ne 18, 3, mi_o), (17, .iload_n 2, 1, mi_o), (18, .iconst 4, 1, mi_o), (19, .if_icmp .lt 17, 3, mi_o)]), (29, [(22, .iload_n 2, 1, mi_o), (23, .bipush 6, 2, mi_o), (25, .if_icmp .gt 11, 3, mi_o), (28, .iload_n 1, 1, mi_o)]), (37, [(29, .ifCond .ne 7, 3, mi_o), (32, .iconst 1, 1, mi_o), (33, .goto 4, 3, mi_o), (36, .iconst 0, 1, mi_o)]), (100000, [(37, .ireturn, 1, mi_o)])]
noncomputable def mi_c125 : List (Nat × mi_I) := ft_flat ft_125
noncomputable def ft_126 : List (Nat × List (Nat × mi_I)) := [(7, [(0, .iload_n 0, 1, mi_o), (1, .iconst 0, 1, mi_o), (2, .bipush 6, 2, mi_o), (4, .invokestatic 74, 3, 120, 0, 9, 0, 152)]), (15, [(7, .ifCond .eq 24, 3, mi_o), (10, .iload_n 1, 1, mi_o), (11, .getstatic 345, 3, 1, 0, 1, 0, 153), (14, .iload_n 0, 1, mi_o)]), (21, [(15, .iaload, 1, mi_o), (16, .getstatic 348, 3, 2, 0, 1, 0, 154), (19, .iload_n 0, 1, mi_o), (20, .iaload, 1, mi_o)]), (31, [(21, .invokestatic 74, 3, 120, 0, 9, 0, 152), (24, .ifCond .eq 7, 3, mi_o), (27, .iconst 1, 1, mi_o), (28, .goto 4, 3, mi_o)]), (100000, [(31, .iconst 0, 1, mi_o), (32, .ireturn, 1, mi_o)])]
noncomputable def mi_c126 : List (Nat × mi_I) := ft_flat ft_126
noncomputable def ft_127 : List (Nat × List (Nat × mi_I)) := [(8, [(0, .iload_n 1, 1, mi_o), (1, .invokestatic 70, 3, 121, 0, 9, 0, 157), (4, .ifCond .ne 5, 3, mi_o), (7, .iconst (-1), 1, mi_o)]), (14, [(8, .ireturn, 1, mi_o), (9, .aload_n 0, 1, mi_o), (10, .getfield 46, 3, 8, 6, 0, 0, 148), (13, .iload_n 1, 1, mi_o)]), (23, [(14, .aaload, 1, mi_o), (15, .getfield 78, 3, 5, 0, 0, 0, 131), (18, .ifCond .ne 6, 3, mi_o), (21, .bipush (-11), 2, mi_o)]), (29, [(23, .ireturn, 1, mi_o), (24, .aload_n 0, 1, mi_o), (25, .getfield 46, 3, 8, 6, 0, 0, 148), (28, .iload_n 1, 1, mi_o)]), (37, [(29, .aaload, 1, mi_o), (30, .iconst 0, 1, mi_o), (31, .invokevirtual 81, 3, 36, 0, 9, 0, 158), (34, .ifCond .eq 7, 3, mi_o)]), (100000, [(37, .iconst 0, 1, mi_o), (38, .goto 5, 3, mi_o), (41, .bipush (-12), 2, mi_o), (43, .ireturn, 1, mi_o)])]
noncomputable def mi_c127 : List (Nat × mi_I) := ft_flat ft_127
noncomputable def ft_128 : List (Nat × List (Nat × mi_I)) := [(9, [(0, .iload_n 1, 1, mi_o), (1, .invokestatic 70, 3, 121, 0, 9, 0, 157), (4, .ifCond .ne 5, 3, mi_o), (7, .iconst (-1), 1, mi_o), (8, .ireturn, 1, mi_o)]), (16, [(9, .aload_n 0, 1, mi_o), (10, .getfield 46, 3, 8, 6, 0, 0, 148), (13, .iload_n 1, 1, mi_o), (14, .aaload, 1, mi_o), (15, .astore_n 3, 1, mi_o)]), (26, [(16, .aload_n 3, 1, mi_o), (17, .getfield 78, 3, 5, 0, 0, 0, 131), (20, .ifCond .ne 6, 3, mi_o), (23, .bipush (-11), 2, mi_o), (25, .ireturn, 1, mi_o)]), (36, [(26, .aload_n 3, 1, mi_o), (27, .getfield 78, 3, 5, 0, 0, 0, 131), (30, .iconst 2, 1, mi_o), (31, .if_icmp .eq 6, 3, mi_o), (34, .bipush (-12), 2, mi_o)]), (43, [(36, .ireturn, 1, mi_o), (37, .iload_n 2, 1, mi_o), (38, .iconst 0, 1, mi_o), (39, .aload_n 3, 1, mi_o), (40, .getfield 88, 3, 5, 3, 0, 0, 138)]), (52, [(43, .iconst 1, 1, mi_o), (44, .isub, 1, mi_o), (45, .invokestatic 74, 3, 120, 0, 9, 0, 152), (48, .ifCond .eq 7, 3, mi_o), (51, .iconst 0, 1, mi_o)]), (100000, [(52, .goto 5, 3, mi_o), (55, .bipush (-13), 2, mi_o), (57, .ireturn, 1, mi_o)])]
noncomputable def mi_c128 : List (Nat × mi_I) := ft_flat ft_128
noncomputable def ft_129 : List (Nat × List (Nat × mi_I)) := [(6, [(0, .aload_n 0, 1, mi_o), (1, .iload_n 1, 1, mi_o), (2, .invokevirtual 217, 3, 127, 0, 9, 0, 209), (5, .istore_n 2, 1, mi_o)]), (14, [(6, .iload_n 2, 1, mi_o), (7, .ifCond .ne 23, 3, mi_o), (10, .aload_n 0, 1, mi_o), (11, .getfield 26, 3, 8, 3, 0, 0, 145)]), (20, [(14, .aload_n 0, 1, mi_o), (15, .getfield 46, 3, 8, 6, 0, 0, 148), (18, .iload_n 1, 1, mi_o), (19, .aaload, 1, mi_o)]), (30, [(20, .aload_n 0, 1, mi_o), (21, .getfield 10, 3, 8, 0, 0, 0, 142), (24, .getfield 62, 3, 4, 0, 0, 0, 35), (27, .invokevirtual 351, 3, 58, 0, 9, 0, 210)]), (100000, [(30, .iload_n 2, 1, mi_o), (31, .ireturn, 1, mi_o)])]
noncomputable def mi_c129 : List (Nat × mi_I) := ft_flat ft_129
noncomputable def ft_130 : List (Nat × List (Nat × mi_I)) := [(22, [(0, .aload_n 0, 1, mi_o), (1, .invokespecial 3, 3, 0, 0, 12, 0, 323), (4, .aload_n 0, 1, mi_o), (5, .bipush 24, 2, mi_o), (7, .newarray .int, 2, mi_o), (9, .putfield 9, 3, 9, 1, 0, 0, 325), (12, .aload_n 0, 1, mi_o), (13, .iconst 3, 1, mi_o), (14, .putfield 15, 3, 9, 2, 0, 0, 326), (17, .aload_n 0, 1, mi_o), (18, .iconst 1, 1, mi_o), (19, .putfield 19, 3, 9, 3, 0, 0, 327)]), (46, [(22, .aload_n 0, 1, mi_o), (23, .bipush 31, 2, mi_o), (25, .newarray .int, 2, mi_o), (27, .putfield 22, 3, 9, 4, 0, 0, 328), (30, .aload_n 0, 1, mi_o), (31, .bipush 120, 2, mi_o), (33, .newarray .int, 2, mi_o), (35, .putfield 25, 3, 9, 6, 0, 0, 330), (38, .aload_n 0, 1, mi_o), (39, .bipush 60, 2, mi_o), (41, .newarray .int, 2, mi_o), (43, .putfield 28, 3, 9, 9, 0, 0, 333)]), (71, [(46, .aload_n 0, 1, mi_o), (47, .bipush 60, 2, mi_o), (49, .newarray .int, 2, mi_o), (51, .putfield 31, 3, 9, 10, 0, 0, 334), (54, .aload_n 0, 1, mi_o), (55, .bipush 60, 2, mi_o), (57, .newarray .int, 2, mi_o), (59, .putfield 34, 3, 9, 11, 0, 0, 335), (62, .aload_n 0, 1, mi_o), (63, .sipush 200, 3, mi_o), (66, .newarray .int, 2, mi_o), (68, .putfield 37, 3, 9, 12, 0, 0, 336)]), (95, [(71, .aload_n 0, 1, mi_o), (72, .bipush 61, 2, mi_o), (74, .newarray .int, 2, mi_o), (76, .putfield 40, 3, 9, 17, 0, 0, 341), (79, .aload_n 0, 1, mi_o), (80, .bipush 61, 2, mi_o), (82, .newarray .int, 2, mi_o), (84, .putfield 43, 3, 9, 18, 0, 0, 342), (87, .aload_n 0, 1, mi_o), (88, .bipush 61, 2, mi_o), (90, .newarray .int, 2, mi_o), (92, .putfield 46, 3, 9, 19, 0, 0, 343)]), (121, [(95, .aload_n 0, 1, mi_o), (96, .sipush 200, 3, mi_o), (99, .newarray .int, 2, mi_o), (101, .putfield 49, 3, 9, 20, 0, 0, 344), (104, .aload_n 0, 1, mi_o), (105, .sipush 200, 3, mi_o), (108, .newarray .int, 2, mi_o), (110, .putfield 52, 3, 9, 21, 0, 0, 345), (113, .aload_n 0, 1, mi_o), (114, .bipush 6, 2, mi_o), (116, .newarray .int, 2, mi_o), (118, .putfield 55, 3, 9, 22, 0, 0, 346)]), (143, [(121, .aload_n 0, 1, mi_o), (122, .iconst 5, 1, mi_o), (123, .newarray .int, 2, mi_o), (125, .putfield 58, 3, 9, 23, 0, 0, 347), (128, .aload_n 0, 1, mi_o), (129, .bipush 31, 2, mi_o), (131, .newarray .int, 2, mi_o), (133, .putfield 61, 3, 9, 26, 0, 0, 350), (136, .aload_n 0, 1, mi_o), (137, .iconst 5, 1, mi_o), (138, .newarray .int, 2, mi_o), (140, .putfield 64, 3, 9, 27, 0, 0, 351)]), (168, [(143, .aload_n 0, 1, mi_o), (144, .sipush 160, 3, mi_o), (147, .newarray .int, 2, mi_o), (149, .putfield 67, 3, 9, 30, 0, 0, 354), (152, .aload_n 0, 1, mi_o), (153, .bipush 50, 2, mi_o), (155, .newarray .int, 2, mi_o), (157, .putfield 70, 3, 9, 32, 0, 0, 356), (160, .aload_n 0, 1, mi_o), (161, .bipush 24, 2, mi_o), (163, .newarray .int, 2, mi_o), (165, .putfield 73, 3, 9, 34, 0, 0, 358)]), (193, [(168, .aload_n 0, 1, mi_o), (169, .bipush 6, 2, mi_o), (171, .newarray .int, 2, mi_o), (173, .putfield 76, 3, 9, 35, 0, 0, 359), (176, .aload_n 0, 1, mi_o), (177, .bipush 6, 2, mi_o), (179, .newarray .int, 2, mi_o), (181, .putfield 79, 3, 9, 36, 0, 0, 360), (184, .aload_n 0, 1, mi_o), (185, .sipush 360, 3, mi_o), (188, .newarray .long, 2, mi_o), (190, .putfield 82, 3, 9, 37, 0, 0, 361)]), (218, [(193, .aload_n 0, 1, mi_o), (194, .bipush 31, 2, mi_o), (196, .newarray .int, 2, mi_o), (198, .putfield 86, 3, 9, 38, 0, 0, 362), (201, .aload_n 0, 1, mi_o), (202, .sipush 155, 3, mi_o), (205, .newarray .int, 2, mi_o), (207, .putfield 89, 3, 9, 39, 0, 0, 363), (210, .aload_n 0, 1, mi_o), (211, .bipush 64, 2, mi_o), (213, .newarray .int, 2, mi_o), (215, .putfield 92, 3, 9, 44, 0, 0, 368)]), (242, [(218, .aload_n 0, 1, mi_o), (219, .bipush 21, 2, mi_o), (221, .newarray .int, 2, mi_o), (223, .putfield 95, 3, 9, 46, 0, 0, 370), (226, .aload_n 0, 1, mi_o), (227, .bipush 21, 2, mi_o), (229, .newarray .int, 2, mi_o), (231, .putfield 98, 3, 9, 47, 0, 0, 371), (234, .aload_n 0, 1, mi_o), (235, .bipush 21, 2, mi_o), (237, .newarray .int, 2, mi_o), (239, .putfield 101, 3, 9, 48, 0, 0, 372)]), (264, [(242, .aload_n 0, 1, mi_o), (243, .bipush 21, 2, mi_o), (245, .newarray .int, 2, mi_o), (247, .putfield 104, 3, 9, 49, 0, 0, 373), (250, .aload_n 0, 1, mi_o), (251, .iconst 5, 1, mi_o), (252, .newarray .int, 2, mi_o), (254, .putfield 107, 3, 9, 50, 0, 0, 374), (257, .aload_n 0, 1, mi_o), (258, .iconst 5, 1, mi_o), (259, .newarray .int, 2, mi_o), (261, .putfield 110, 3, 9, 51, 0, 0, 375)]), (285, [(264, .aload_n 0, 1, mi_o), (265, .bipush 64, 2, mi_o), (267, .newarray .int, 2, mi_o), (269, .putfield 113, 3, 9, 53, 0, 0, 377), (272, .iconst 0, 1, mi_o), (273, .istore_n 1, 1, mi_o), (274, .iload_n 1, 1, mi_o), (275, .bipush 6, 2, mi_o), (277, .if_icmp .ge 16, 3, mi_o), (280, .aload_n 0, 1, mi_o), (281, .getfield 76, 3, 9, 35, 0, 0, 359), (284, .iload_n 1, 1, mi_o)]), (100000, [(285, .iconst (-1), 1, mi_o), (286, .iastore, 1, mi_o), (287, .iinc 1 1, 3, mi_o), (290, .goto (-16), 3, mi_o), (293, .return_, 1, mi_o)])]
noncomputable def mi_c130 : List (Nat × mi_I) := ft_flat ft_130
noncomputable def ft_131 : List (Nat × List (Nat × mi_I)) := [(6, [(0, .iload_n 0, 1, mi_o), (1, .iload_n 1, 1, mi_o), (2, .if_icmp .lt 12, 3, mi_o), (5, .iload_n 0, 1, mi_o)]), (14, [(6, .iload_n 2, 1, mi_o), (7, .if_icmp .gt 7, 3, mi_o), (10, .iconst 1, 1, mi_o), (11, .goto 4, 3, mi_o)]), (100000, [(14, .iconst 0, 1, mi_o), (15, .ireturn, 1, mi_o)])]
noncomputable def mi_c131 : List (Nat × mi_I) := ft_flat ft_131
noncomputable def ft_132 : List (Nat × List (Nat × mi_I)) := [(6, [(0, .iload_n 1, 1, mi_o), (1, .iconst 0, 1, mi_o), (2, .aload_n 0, 1, mi_o), (3, .getfield 116, 3, 9, 0, 0, 0, 324)]), (100000, [(6, .iconst 1, 1, mi_o), (7, .isub, 1, mi_o), (8, .invokestatic 119, 3, 131, 0, 9, 0, 379), (11, .ireturn, 1, mi_o)])]
noncomputable def mi_c132 : List (Nat × mi_I) := ft_flat ft_132
noncomputable def ft_133 : List (Nat × List (Nat × mi_I)) := [(6, [(0, .iload_n 0, 1, mi_o), (1, .iconst 0, 1, mi_o), (2, .iconst 5, 1, mi_o), (3, .invokestatic 119, 3, 131, 0, 9, 0, 379)]), (100000, [(6, .ireturn, 1, mi_o)])]
noncomputable def mi_c133 : List (Nat × mi_I) := ft_flat ft_133
noncomputable def ft_134 : List (Nat × List (Nat × mi_I)) := [(9, [(0, .aload_n 0, 1, mi_o), (1, .getfield 22, 3, 9, 4, 0, 0, 328), (4, .aload_n 0, 1, mi_o), (5, .getfield 116, 3, 9, 0, 0, 0, 324), (8, .iload_n 1, 1, mi_o)]), (18, [(9, .iastore, 1, mi_o), (10, .aload_n 0, 1, mi_o), (11, .getfield 9, 3, 9, 1, 0, 0, 325), (14, .aload_n 0, 1, mi_o), (15, .getfield 116, 3, 9, 0, 0, 0, 324)]), (26, [(18, .iload_n 2, 1, mi_o), (19, .iastore, 1, mi_o), (20, .aload_n 0, 1, mi_o), (21, .getfield 9, 3, 9, 1, 0, 0, 325), (24, .bipush 8, 2, mi_o)]), (33, [(26, .aload_n 0, 1, mi_o), (27, .getfield 116, 3, 9, 0, 0, 0, 324), (30, .iadd, 1, mi_o), (31, .iload_n 3, 1, mi_o), (32, .iastore, 1, mi_o)]), (40, [(33, .aload_n 0, 1, mi_o), (34, .dup, 1, mi_o), (35, .getfield 116, 3, 9, 0, 0, 0, 324), (38, .dup_x1, 1, mi_o), (39, .iconst 1, 1, mi_o)]), (100000, [(40, .iadd, 1, mi_o), (41, .putfield 116, 3, 9, 0, 0, 0, 324), (44, .ireturn, 1, mi_o)])]
noncomputable def mi_c134 : List (Nat × mi_I) := ft_flat ft_134
noncomputable def ft_135 : List (Nat × List (Nat × mi_I)) := [(7, [(0, .iload_n 1, 1, mi_o), (1, .iconst 0, 1, mi_o), (2, .bipush 9, 2, mi_o), (4, .invokestatic 119, 3, 131, 0, 9, 0, 379)]), (14, [(7, .ifCond .eq 13, 3, mi_o), (10, .iload_n 2, 1, mi_o), (11, .iconst 0, 1, mi_o), (12, .bipush 9, 2, mi_o)]), (22, [(14, .invokestatic 119, 3, 131, 0, 9, 0, 379), (17, .ifCond .ne 5, 3, mi_o), (20, .iconst (-1), 1, mi_o), (21, .ireturn, 1, mi_o)]), (31, [(22, .aload_n 0, 1, mi_o), (23, .getfield 116, 3, 9, 0, 0, 0, 324), (26, .bipush 8, 2, mi_o), (28, .if_icmp .ne 8, 3, mi_o)]), (39, [(31, .bipush (-3), 2, mi_o), (33, .goto 11, 3, mi_o), (36, .aload_n 0, 1, mi_o), (37, .bipush 100, 2, mi_o)]), (100000, [(39, .iload_n 1, 1, mi_o), (40, .iload_n 2, 1, mi_o), (41, .invokevirtual 123, 3, 134, 0, 9, 0, 380), (44, .ireturn, 1, mi_o)])]
noncomputable def mi_c135 : List (Nat × mi_I) := ft_flat ft_135
noncomputable def ft_136 : List (Nat × List (Nat × mi_I)) := [(19, [(0, .iload_n 1, 1, mi_o), (1, .invokestatic 127, 3, 133, 0, 9, 0, 382), (4, .ifCond .eq 13, 3, mi_o), (7, .iload_n 3, 1, mi_o), (8, .iconst 1, 1, mi_o), (9, .bipush 8, 2, mi_o), (11, .invokestatic 119, 3, 131, 0, 9, 0, 379), (14, .ifCond .ne 5, 3, mi_o), (17, .iconst (-1), 1, mi_o), (18, .ireturn, 1, mi_o)]), (35, [(19, .aload_n 0, 1, mi_o), (20, .getfield 76, 3, 9, 35, 0, 0, 359), (23, .iload_n 1, 1, mi_o), (24, .iaload, 1, mi_o), (25, .iconst (-1), 1, mi_o), (26, .if_icmp .ne 5, 3, mi_o), (29, .iconst 0, 1, mi_o), (30, .ireturn, 1, mi_o), (31, .aload_n 0, 1, mi_o), (32, .getfield 76, 3, 9, 35, 0, 0, 359)]), (50, [(35, .iload_n 1, 1, mi_o), (36, .iaload, 1, mi_o), (37, .iconst 1, 1, mi_o), (38, .if_icmp .eq 6, 3, mi_o), (41, .bipush (-12), 2, mi_o), (43, .ireturn, 1, mi_o), (44, .iconst 0, 1, mi_o), (45, .istore 4, 2, mi_o), (47, .iconst 0, 1, mi_o), (48, .istore 5, 2, mi_o)]), (66, [(50, .iload 5, 2, mi_o), (52, .iload_n 3, 1, mi_o), (53, .if_icmp .ge 151, 3, mi_o), (56, .iload_n 2, 1, mi_o), (57, .i2l, 1, mi_o), (58, .ldc2_w 131, 3, 0, 0, 7, 3, 383), (61, .iload 5, 2, mi_o), (63, .i2l, 1, mi_o), (64, .lmul, 1, mi_o), (65, .ladd, 1, mi_o)]), (85, [(66, .lstore 6, 2, mi_o), (68, .lload 6, 2, mi_o), (70, .lconst 0, 1, mi_o), (71, .lcmp, 1, mi_o), (72, .ifCond .lt 29, 3, mi_o), (75, .lload 6, 2, mi_o), (77, .ldc2_w 131, 3, 0, 0, 7, 3, 383), (80, .ladd, 1, mi_o), (81, .aload_n 0, 1, mi_o), (82, .getfield 79, 3, 9, 36, 0, 0, 360)]), (103, [(85, .iload_n 1, 1, mi_o), (86, .iaload, 1, mi_o), (87, .i2l, 1, mi_o), (88, .lcmp, 1, mi_o), (89, .ifCond .gt 12, 3, mi_o), (92, .aload_n 0, 1, mi_o), (93, .getfield 116, 3, 9, 0, 0, 0, 324), (96, .bipush 8, 2, mi_o), (98, .if_icmp .ne 6, 3, mi_o), (101, .iload 4, 2, mi_o)]), (120, [(103, .ireturn, 1, mi_o), (104, .lload 6, 2, mi_o), (106, .l2i, 1, mi_o), (107, .istore 8, 2, mi_o), (109, .aload_n 0, 1, mi_o), (110, .iload_n 1, 1, mi_o), (111, .iload 8, 2, mi_o), (113, .invokevirtual 133, 3, 137, 0, 9, 0, 384), (116, .iconst 0, 1, mi_o), (117, .sipush 999, 3, mi_o)]), (138, [(120, .invokestatic 119, 3, 131, 0, 9, 0, 379), (123, .ifCond .eq 39, 3, mi_o), (126, .aload_n 0, 1, mi_o), (127, .iload_n 1, 1, mi_o), (128, .iload 8, 2, mi_o), (130, .iconst 1, 1, mi_o), (131, .iadd, 1, mi_o), (132, .invokevirtual 133, 3, 137, 0, 9, 0, 384), (135, .iconst 0, 1, mi_o), (136, .bipush 9, 2, mi_o)]), (156, [(138, .invokestatic 119, 3, 131, 0, 9, 0, 379), (141, .ifCond .eq 21, 3, mi_o), (144, .aload_n 0, 1, mi_o), (145, .iload_n 1, 1, mi_o), (146, .iload 8, 2, mi_o), (148, .iconst 2, 1, mi_o), (149, .iadd, 1, mi_o), (150, .invokevirtual 133, 3, 137, 0, 9, 0, 384), (153, .iconst 0, 1, mi_o), (154, .bipush 9, 2, mi_o)]), (174, [(156, .invokestatic 119, 3, 131, 0, 9, 0, 379), (159, .ifCond .ne 6, 3, mi_o), (162, .iload 4, 2, mi_o), (164, .ireturn, 1, mi_o), (165, .aload_n 0, 1, mi_o), (166, .aload_n 0, 1, mi_o), (167, .iload_n 1, 1, mi_o), (168, .iload 8, 2, mi_o), (170, .invokevirtual 133, 3, 137, 0, 9, 0, 384), (173, .aload_n 0, 1, mi_o)]), (188, [(174, .iload_n 1, 1, mi_o), (175, .iload 8, 2, mi_o), (177, .iconst 1, 1, mi_o), (178, .iadd, 1, mi_o), (179, .invokevirtual 133, 3, 137, 0, 9, 0, 384), (182, .aload_n 0, 1, mi_o), (183, .iload_n 1, 1, mi_o), (184, .iload 8, 2, mi_o), (186, .iconst 2, 1, mi_o), (187, .iadd, 1, mi_o)]), (100000, [(188, .invokevirtual 133, 3, 137, 0, 9, 0, 384), (191, .invokevirtual 123, 3, 134, 0, 9, 0, 380), (194, .pop, 1, mi_o), (195, .iinc 4 1, 3, mi_o), (198, .iinc 5 1, 3, mi_o), (201, .goto (-151), 3, mi_o), (204, .iload 4, 2, mi_o), (206, .ireturn, 1, mi_o)])]
noncomputable def mi_c136 : List (Nat × mi_I) := ft_flat ft_136
noncomputable def ft_137 : List (Nat × List (Nat × mi_I)) := [(7, [(0, .aload_n 0, 1, mi_o), (1, .getfield 82, 3, 9, 37, 0, 0, 361), (4, .bipush 60, 2, mi_o), (6, .iload_n 1, 1, mi_o)]), (11, [(7, .imul, 1, mi_o), (8, .iload_n 2, 1, mi_o), (9, .iadd, 1, mi_o), (10, .laload, 1, mi_o)]), (100000, [(11, .l2i, 1, mi_o), (12, .ireturn, 1, mi_o)])]
noncomputable def mi_c137 : List (Nat × mi_I) := ft_flat ft_137
noncomputable def ft_138 : List (Nat × List (Nat × mi_I)) := [(6, [(0, .iload_n 2, 1, mi_o), (1, .iconst 0, 1, mi_o), (2, .iconst 3, 1, mi_o), (3, .invokestatic 119, 3, 131, 0, 9, 0, 379)]), (14, [(6, .ifCond .eq 11, 3, mi_o), (9, .aload_n 0, 1, mi_o), (10, .iload_n 1, 1, mi_o), (11, .invokevirtual 137, 3, 132, 0, 9, 0, 387)]), (21, [(14, .goto 22, 3, mi_o), (17, .iload_n 2, 1, mi_o), (18, .iconst 4, 1, mi_o), (19, .bipush 6, 2, mi_o)]), (31, [(21, .invokestatic 119, 3, 131, 0, 9, 0, 379), (24, .ifCond .eq 11, 3, mi_o), (27, .iload_n 1, 1, mi_o), (28, .ifCond .ne 7, 3, mi_o)]), (100000, [(31, .iconst 1, 1, mi_o), (32, .goto 4, 3, mi_o), (35, .iconst 0, 1, mi_o), (36, .ireturn, 1, mi_o)])]
noncomputable def mi_c138 : List (Nat × mi_I) := ft_flat ft_138
noncomputable def ft_139 : List (Nat × List (Nat × mi_I)) := [(49, [(0, .iload_n 0, 1, mi_o), (1, .tableswitch 75 0 6 #[43, 52, 52, 75, 60, 75, 67], 43, mi_o), (44, .iload_n 1, 1, mi_o), (45, .iconst 0, 1, mi_o), (46, .sipush 999, 3, mi_o)]), (57, [(49, .invokestatic 119, 3, 131, 0, 9, 0, 379), (52, .ireturn, 1, mi_o), (53, .iload_n 1, 1, mi_o), (54, .iconst 0, 1, mi_o), (55, .bipush 9, 2, mi_o)]), (64, [(57, .invokestatic 119, 3, 131, 0, 9, 0, 379), (60, .ireturn, 1, mi_o), (61, .iload_n 1, 1, mi_o), (62, .iconst 1, 1, mi_o), (63, .iconst 5, 1, mi_o)]), (72, [(64, .invokestatic 119, 3, 131, 0, 9, 0, 379), (67, .ireturn, 1, mi_o), (68, .iload_n 1, 1, mi_o), (69, .iconst 0, 1, mi_o), (70, .bipush 99, 2, mi_o)]), (79, [(72, .invokestatic 119, 3, 131, 0, 9, 0, 379), (75, .ireturn, 1, mi_o), (76, .iload_n 1, 1, mi_o), (77, .iconst 0, 1, mi_o), (78, .iconst 1, 1, mi_o)]), (100000, [(79, .invokestatic 119, 3, 131, 0, 9, 0, 379), (82, .ireturn, 1, mi_o)])]
noncomputable def mi_c139 : List (Nat × mi_I) := ft_flat ft_139
noncomputable def ft_140 : List (Nat × List (Nat × mi_I)) := [(49, [(0, .iload_n 2, 1, mi_o), (1, .tableswitch 68 0 6 #[43, 68, 68, 68, 50, 55, 60], 43, mi_o), (44, .aload_n 0, 1, mi_o), (45, .getfield 22, 3, 9, 4, 0, 0, 328), (48, .iload_n 1, 1, mi_o)]), (56, [(49, .iaload, 1, mi_o), (50, .ireturn, 1, mi_o), (51, .aload_n 0, 1, mi_o), (52, .getfield 15, 3, 9, 2, 0, 0, 326), (55, .ireturn, 1, mi_o)]), (65, [(56, .aload_n 0, 1, mi_o), (57, .getfield 19, 3, 9, 3, 0, 0, 327), (60, .ireturn, 1, mi_o), (61, .aload_n 0, 1, mi_o), (62, .getfield 22, 3, 9, 4, 0, 0, 328)]), (73, [(65, .bipush 8, 2, mi_o), (67, .iaload, 1, mi_o), (68, .ireturn, 1, mi_o), (69, .aload_n 0, 1, mi_o), (70, .getfield 9, 3, 9, 1, 0, 0, 325)]), (80, [(73, .bipush 8, 2, mi_o), (75, .iload_n 2, 1, mi_o), (76, .imul, 1, mi_o), (77, .bipush 8, 2, mi_o), (79, .isub, 1, mi_o)]), (100000, [(80, .iload_n 1, 1, mi_o), (81, .iadd, 1, mi_o), (82, .iaload, 1, mi_o), (83, .ireturn, 1, mi_o)])]
noncomputable def mi_c140 : List (Nat × mi_I) := ft_flat ft_140
noncomputable def ft_141 : List (Nat × List (Nat × mi_I)) := [(49, [(0, .iload_n 2, 1, mi_o), (1, .tableswitch 80 0 6 #[43, 80, 80, 80, 53, 61, 69], 43, mi_o), (44, .aload_n 0, 1, mi_o), (45, .getfield 22, 3, 9, 4, 0, 0, 328), (48, .iload_n 1, 1, mi_o)]), (56, [(49, .iload_n 3, 1, mi_o), (50, .iastore, 1, mi_o), (51, .goto 45, 3, mi_o), (54, .aload_n 0, 1, mi_o), (55, .iload_n 3, 1, mi_o)]), (67, [(56, .putfield 15, 3, 9, 2, 0, 0, 326), (59, .goto 37, 3, mi_o), (62, .aload_n 0, 1, mi_o), (63, .iload_n 3, 1, mi_o), (64, .putfield 19, 3, 9, 3, 0, 0, 327)]), (77, [(67, .goto 29, 3, mi_o), (70, .aload_n 0, 1, mi_o), (71, .getfield 22, 3, 9, 4, 0, 0, 328), (74, .bipush 8, 2, mi_o), (76, .iload_n 3, 1, mi_o)]), (87, [(77, .iastore, 1, mi_o), (78, .goto 18, 3, mi_o), (81, .aload_n 0, 1, mi_o), (82, .getfield 9, 3, 9, 1, 0, 0, 325), (85, .bipush 8, 2, mi_o)]), (93, [(87, .iload_n 2, 1, mi_o), (88, .imul, 1, mi_o), (89, .bipush 8, 2, mi_o), (91, .isub, 1, mi_o), (92, .iload_n 1, 1, mi_o)]), (100000, [(93, .iadd, 1, mi_o), (94, .iload_n 3, 1, mi_o), (95, .iastore, 1, mi_o), (96, .return_, 1, mi_o)])]
noncomputable def mi_c141 : List (Nat × mi_I) := ft_flat ft_141
noncomputable def ft_142 : List (Nat × List (Nat × mi_I)) := [(18, [(0, .aload_n 0, 1, mi_o), (1, .iload_n 1, 1, mi_o), (2, .iload_n 2, 1, mi_o), (3, .invokevirtual 140, 3, 138, 0, 9, 0, 386), (6, .ifCond .eq 11, 3, mi_o), (9, .iload_n 2, 1, mi_o), (10, .iload_n 3, 1, mi_o), (11, .invokestatic 144, 3, 139, 0, 9, 0, 388), (14, .ifCond .ne 5, 3, mi_o), (17, .iconst (-1), 1, mi_o)]), (35, [(18, .ireturn, 1, mi_o), (19, .aload_n 0, 1, mi_o), (20, .iload_n 1, 1, mi_o), (21, .iload_n 2, 1, mi_o), (22, .invokevirtual 147, 3, 140, 0, 9, 0, 389), (25, .istore 4, 2, mi_o), (27, .iload 4, 2, mi_o), (29, .iload_n 3, 1, mi_o), (30, .if_icmp .ne 6, 3, mi_o), (33, .iload 4, 2, mi_o)]), (52, [(35, .ireturn, 1, mi_o), (36, .aload_n 0, 1, mi_o), (37, .iload_n 1, 1, mi_o), (38, .iload_n 2, 1, mi_o), (39, .iload_n 3, 1, mi_o), (40, .invokevirtual 150, 3, 141, 0, 9, 0, 390), (43, .aload_n 0, 1, mi_o), (44, .getfield 154, 3, 9, 29, 0, 0, 353), (47, .bipush 40, 2, mi_o), (49, .if_icmp .ne 46, 3, mi_o)]), (73, [(52, .iconst 0, 1, mi_o), (53, .istore 5, 2, mi_o), (55, .iload 5, 2, mi_o), (57, .sipush 156, 3, mi_o), (60, .if_icmp .ge 25, 3, mi_o), (63, .aload_n 0, 1, mi_o), (64, .getfield 67, 3, 9, 30, 0, 0, 354), (67, .iload 5, 2, mi_o), (69, .aload_n 0, 1, mi_o), (70, .getfield 67, 3, 9, 30, 0, 0, 354)]), (90, [(73, .iload 5, 2, mi_o), (75, .iconst 4, 1, mi_o), (76, .iadd, 1, mi_o), (77, .iaload, 1, mi_o), (78, .iastore, 1, mi_o), (79, .iinc 5 1, 3, mi_o), (82, .goto (-27), 3, mi_o), (85, .aload_n 0, 1, mi_o), (86, .dup, 1, mi_o), (87, .getfield 154, 3, 9, 29, 0, 0, 353)]), (106, [(90, .iconst 1, 1, mi_o), (91, .isub, 1, mi_o), (92, .putfield 154, 3, 9, 29, 0, 0, 353), (95, .aload_n 0, 1, mi_o), (96, .getfield 67, 3, 9, 30, 0, 0, 354), (99, .iconst 4, 1, mi_o), (100, .aload_n 0, 1, mi_o), (101, .getfield 154, 3, 9, 29, 0, 0, 353), (104, .imul, 1, mi_o), (105, .iload_n 1, 1, mi_o)]), (120, [(106, .iastore, 1, mi_o), (107, .aload_n 0, 1, mi_o), (108, .getfield 67, 3, 9, 30, 0, 0, 354), (111, .iconst 4, 1, mi_o), (112, .aload_n 0, 1, mi_o), (113, .getfield 154, 3, 9, 29, 0, 0, 353), (116, .imul, 1, mi_o), (117, .iconst 1, 1, mi_o), (118, .iadd, 1, mi_o), (119, .iload_n 2, 1, mi_o)]), (135, [(120, .iastore, 1, mi_o), (121, .aload_n 0, 1, mi_o), (122, .getfield 67, 3, 9, 30, 0, 0, 354), (125, .iconst 4, 1, mi_o), (126, .aload_n 0, 1, mi_o), (127, .getfield 154, 3, 9, 29, 0, 0, 353), (130, .imul, 1, mi_o), (131, .iconst 2, 1, mi_o), (132, .iadd, 1, mi_o), (133, .iload 4, 2, mi_o)]), (149, [(135, .iastore, 1, mi_o), (136, .aload_n 0, 1, mi_o), (137, .getfield 67, 3, 9, 30, 0, 0, 354), (140, .iconst 4, 1, mi_o), (141, .aload_n 0, 1, mi_o), (142, .getfield 154, 3, 9, 29, 0, 0, 353), (145, .imul, 1, mi_o), (146, .iconst 3, 1, mi_o), (147, .iadd, 1, mi_o), (148, .iload_n 3, 1, mi_o)]), (165, [(149, .iastore, 1, mi_o), (150, .aload_n 0, 1, mi_o), (151, .dup, 1, mi_o), (152, .getfield 154, 3, 9, 29, 0, 0, 353), (155, .iconst 1, 1, mi_o), (156, .iadd, 1, mi_o), (157, .putfield 154, 3, 9, 29, 0, 0, 353), (160, .aload_n 0, 1, mi_o), (161, .aload_n 0, 1, mi_o), (162, .getfield 154, 3, 9, 29, 0, 0, 353)]), (100000, [(165, .putfield 157, 3, 9, 28, 0, 0, 352), (168, .iload 4, 2, mi_o), (170, .ireturn, 1, mi_o)])]
noncomputable def mi_c142 : List (Nat × mi_I) := ft_flat ft_142
noncomputable def ft_143 : List (Nat × List (Nat × mi_I)) := [(6, [(0, .aload_n 0, 1, mi_o), (1, .iload_n 1, 1, mi_o), (2, .iload_n 2, 1, mi_o), (3, .invokevirtual 140, 3, 138, 0, 9, 0, 386)]), (12, [(6, .ifCond .eq 12, 3, mi_o), (9, .aload_n 0, 1, mi_o), (10, .iload_n 1, 1, mi_o), (11, .iload_n 2, 1, mi_o)]), (100000, [(12, .invokevirtual 147, 3, 140, 0, 9, 0, 389), (15, .goto 4, 3, mi_o), (18, .iconst (-1), 1, mi_o), (19, .ireturn, 1, mi_o)])]
noncomputable def mi_c143 : List (Nat × mi_I) := ft_flat ft_143
noncomputable def ft_144 : List (Nat × List (Nat × mi_I)) := [(11, [(0, .aload_n 0, 1, mi_o), (1, .getfield 154, 3, 9, 29, 0, 0, 353), (4, .ifCond .ne 6, 3, mi_o), (7, .bipush (-5), 2, mi_o), (9, .ireturn, 1, mi_o), (10, .aload_n 0, 1, mi_o)]), (21, [(11, .dup, 1, mi_o), (12, .getfield 154, 3, 9, 29, 0, 0, 353), (15, .iconst 1, 1, mi_o), (16, .isub, 1, mi_o), (17, .putfield 154, 3, 9, 29, 0, 0, 353), (20, .aload_n 0, 1, mi_o)]), (31, [(21, .aload_n 0, 1, mi_o), (22, .getfield 67, 3, 9, 30, 0, 0, 354), (25, .iconst 4, 1, mi_o), (26, .aload_n 0, 1, mi_o), (27, .getfield 154, 3, 9, 29, 0, 0, 353), (30, .imul, 1, mi_o)]), (41, [(31, .iaload, 1, mi_o), (32, .aload_n 0, 1, mi_o), (33, .getfield 67, 3, 9, 30, 0, 0, 354), (36, .iconst 4, 1, mi_o), (37, .aload_n 0, 1, mi_o), (38, .getfield 154, 3, 9, 29, 0, 0, 353)]), (49, [(41, .imul, 1, mi_o), (42, .iconst 1, 1, mi_o), (43, .iadd, 1, mi_o), (44, .iaload, 1, mi_o), (45, .aload_n 0, 1, mi_o), (46, .getfield 67, 3, 9, 30, 0, 0, 354)]), (57, [(49, .iconst 4, 1, mi_o), (50, .aload_n 0, 1, mi_o), (51, .getfield 154, 3, 9, 29, 0, 0, 353), (54, .imul, 1, mi_o), (55, .iconst 2, 1, mi_o), (56, .iadd, 1, mi_o)]), (100000, [(57, .iaload, 1, mi_o), (58, .invokevirtual 150, 3, 141, 0, 9, 0, 390), (61, .aload_n 0, 1, mi_o), (62, .getfield 154, 3, 9, 29, 0, 0, 353), (65, .ireturn, 1, mi_o)])]
noncomputable def mi_c144 : List (Nat × mi_I) := ft_flat ft_144
noncomputable def ft_145 : List (Nat × List (Nat × mi_I)) := [(13, [(0, .aload_n 0, 1, mi_o), (1, .getfield 154, 3, 9, 29, 0, 0, 353), (4, .aload_n 0, 1, mi_o), (5, .getfield 157, 3, 9, 28, 0, 0, 352), (8, .if_icmp .ne 6, 3, mi_o), (11, .bipush (-5), 2, mi_o)]), (21, [(13, .ireturn, 1, mi_o), (14, .aload_n 0, 1, mi_o), (15, .aload_n 0, 1, mi_o), (16, .getfield 67, 3, 9, 30, 0, 0, 354), (19, .iconst 4, 1, mi_o), (20, .aload_n 0, 1, mi_o)]), (31, [(21, .getfield 154, 3, 9, 29, 0, 0, 353), (24, .imul, 1, mi_o), (25, .iaload, 1, mi_o), (26, .aload_n 0, 1, mi_o), (27, .getfield 67, 3, 9, 30, 0, 0, 354), (30, .iconst 4, 1, mi_o)]), (39, [(31, .aload_n 0, 1, mi_o), (32, .getfield 154, 3, 9, 29, 0, 0, 353), (35, .imul, 1, mi_o), (36, .iconst 1, 1, mi_o), (37, .iadd, 1, mi_o), (38, .iaload, 1, mi_o)]), (49, [(39, .aload_n 0, 1, mi_o), (40, .getfield 67, 3, 9, 30, 0, 0, 354), (43, .iconst 4, 1, mi_o), (44, .aload_n 0, 1, mi_o), (45, .getfield 154, 3, 9, 29, 0, 0, 353), (48, .imul, 1, mi_o)]), (57, [(49, .iconst 3, 1, mi_o), (50, .iadd, 1, mi_o), (51, .iaload, 1, mi_o), (52, .invokevirtual 150, 3, 141, 0, 9, 0, 390), (55, .aload_n 0, 1, mi_o), (56, .dup, 1, mi_o)]), (69, [(57, .getfield 154, 3, 9, 29, 0, 0, 353), (60, .iconst 1, 1, mi_o), (61, .iadd, 1, mi_o), (62, .putfield 154, 3, 9, 29, 0, 0, 353), (65, .aload_n 0, 1, mi_o), (66, .getfield 157, 3, 9, 28, 0, 0, 352)]), (100000, [(69, .aload_n 0, 1, mi_o), (70, .getfield 154, 3, 9, 29, 0, 0, 353), (73, .isub, 1, mi_o), (74, .ireturn, 1, mi_o)])]
noncomputable def mi_c145 : List (Nat × mi_I) := ft_flat ft_145
noncomputable def ft_146 : List (Nat × List (Nat × mi_I)) := [(11, [(0, .iload_n 1, 1, mi_o), (1, .iconst 0, 1, mi_o), (2, .sipush 255, 3, mi_o), (5, .invokestatic 119, 3, 131, 0, 9, 0, 379), (8, .ifCond .ne 5, 3, mi_o)]), (19, [(11, .iconst (-1), 1, mi_o), (12, .ireturn, 1, mi_o), (13, .aload_n 0, 1, mi_o), (14, .getfield 160, 3, 9, 5, 0, 0, 329), (17, .bipush 120, 2, mi_o)]), (29, [(19, .if_icmp .ne 6, 3, mi_o), (22, .bipush (-3), 2, mi_o), (24, .ireturn, 1, mi_o), (25, .aload_n 0, 1, mi_o), (26, .getfield 25, 3, 9, 6, 0, 0, 330)]), (36, [(29, .aload_n 0, 1, mi_o), (30, .dup, 1, mi_o), (31, .getfield 160, 3, 9, 5, 0, 0, 329), (34, .dup_x1, 1, mi_o), (35, .iconst 1, 1, mi_o)]), (43, [(36, .iadd, 1, mi_o), (37, .putfield 160, 3, 9, 5, 0, 0, 329), (40, .iload_n 1, 1, mi_o), (41, .iastore, 1, mi_o), (42, .aload_n 0, 1, mi_o)]), (100000, [(43, .getfield 160, 3, 9, 5, 0, 0, 329), (46, .ireturn, 1, mi_o)])]
noncomputable def mi_c146 : List (Nat × mi_I) := ft_flat ft_146
noncomputable def ft_147 : List (Nat × List (Nat × mi_I)) := [(8, [(0, .aload_n 0, 1, mi_o), (1, .getfield 163, 3, 9, 13, 0, 0, 337), (4, .aload_n 0, 1, mi_o), (5, .getfield 160, 3, 9, 5, 0, 0, 329)]), (16, [(8, .if_icmp .ge 15, 3, mi_o), (11, .aload_n 0, 1, mi_o), (12, .getfield 25, 3, 9, 6, 0, 0, 330), (15, .aload_n 0, 1, mi_o)]), (24, [(16, .getfield 163, 3, 9, 13, 0, 0, 337), (19, .iaload, 1, mi_o), (20, .goto 4, 3, mi_o), (23, .iconst (-1), 1, mi_o)]), (100000, [(24, .ireturn, 1, mi_o)])]
noncomputable def mi_c147 : List (Nat × mi_I) := ft_flat ft_147
noncomputable def ft_148 : List (Nat × List (Nat × mi_I)) := [(8, [(0, .aload_n 0, 1, mi_o), (1, .invokevirtual 166, 3, 147, 0, 9, 0, 404), (4, .iload_n 1, 1, mi_o), (5, .if_icmp .eq 5, 3, mi_o)]), (12, [(8, .iconst 0, 1, mi_o), (9, .ireturn, 1, mi_o), (10, .aload_n 0, 1, mi_o), (11, .dup, 1, mi_o)]), (20, [(12, .getfield 163, 3, 9, 13, 0, 0, 337), (15, .iconst 1, 1, mi_o), (16, .iadd, 1, mi_o), (17, .putfield 163, 3, 9, 13, 0, 0, 337)]), (100000, [(20, .iconst 1, 1, mi_o), (21, .ireturn, 1, mi_o)])]
noncomputable def mi_c148 : List (Nat × mi_I) := ft_flat ft_148
noncomputable def ft_149 : List (Nat × List (Nat × mi_I)) := [(6, [(0, .aload_n 0, 1, mi_o), (1, .getfield 49, 3, 9, 20, 0, 0, 344), (4, .aload_n 0, 1, mi_o), (5, .dup, 1, mi_o)]), (12, [(6, .getfield 170, 3, 9, 15, 0, 0, 339), (9, .dup_x1, 1, mi_o), (10, .iconst 1, 1, mi_o), (11, .iadd, 1, mi_o)]), (18, [(12, .putfield 170, 3, 9, 15, 0, 0, 339), (15, .iload_n 1, 1, mi_o), (16, .iastore, 1, mi_o), (17, .iconst 1, 1, mi_o)]), (100000, [(18, .ireturn, 1, mi_o)])]
noncomputable def mi_c149 : List (Nat × mi_I) := ft_flat ft_149
noncomputable def ft_150 : List (Nat × List (Nat × mi_I)) := [(9, [(0, .aload_n 0, 1, mi_o), (1, .invokevirtual 166, 3, 147, 0, 9, 0, 404), (4, .bipush 48, 2, mi_o), (6, .if_icmp .lt 16, 3, mi_o)]), (18, [(9, .aload_n 0, 1, mi_o), (10, .invokevirtual 166, 3, 147, 0, 9, 0, 404), (13, .bipush 57, 2, mi_o), (15, .if_icmp .gt 7, 3, mi_o)]), (100000, [(18, .iconst 1, 1, mi_o), (19, .goto 4, 3, mi_o), (22, .iconst 0, 1, mi_o), (23, .ireturn, 1, mi_o)])]
noncomputable def mi_c150 : List (Nat × mi_I) := ft_flat ft_150
noncomputable def ft_151 : List (Nat × List (Nat × mi_I)) := [(98, [(0, .iload_n 0, 1, mi_o), (1, .tableswitch 107 100 119 #[105, 107, 107, 107, 99, 107, 107, 107, 107, 107, 101, 103, 97, 107, 107, 107, 107, 107, 107, 95], 95, mi_o), (96, .iconst 0, 1, mi_o), (97, .ireturn, 1, mi_o)]), (102, [(98, .iconst 1, 1, mi_o), (99, .ireturn, 1, mi_o), (100, .iconst 2, 1, mi_o), (101, .ireturn, 1, mi_o)]), (106, [(102, .iconst 3, 1, mi_o), (103, .ireturn, 1, mi_o), (104, .iconst 4, 1, mi_o), (105, .ireturn, 1, mi_o)]), (100000, [(106, .iconst 5, 1, mi_o), (107, .ireturn, 1, mi_o), (108, .iconst (-1), 1, mi_o), (109, .ireturn, 1, mi_o)])]
noncomputable def mi_c151 : List (Nat × mi_I) := ft_flat ft_151
noncomputable def ft_152 : List (Nat × List (Nat × mi_I)) := [(17, [(0, .aload_n 0, 1, mi_o), (1, .invokevirtual 173, 3, 150, 0, 9, 0, 403), (4, .ifCond .eq 62, 3, mi_o), (7, .iconst 0, 1, mi_o), (8, .istore_n 1, 1, mi_o), (9, .iconst 0, 1, mi_o), (10, .istore_n 2, 1, mi_o), (11, .iload_n 2, 1, mi_o), (12, .iconst 4, 1, mi_o), (13, .if_icmp .ge 44, 3, mi_o), (16, .aload_n 0, 1, mi_o)]), (37, [(17, .invokevirtual 173, 3, 150, 0, 9, 0, 403), (20, .ifCond .eq 37, 3, mi_o), (23, .bipush 10, 2, mi_o), (25, .iload_n 1, 1, mi_o), (26, .imul, 1, mi_o), (27, .aload_n 0, 1, mi_o), (28, .getfield 25, 3, 9, 6, 0, 0, 330), (31, .aload_n 0, 1, mi_o), (32, .getfield 163, 3, 9, 13, 0, 0, 337), (35, .iaload, 1, mi_o), (36, .iadd, 1, mi_o)]), (57, [(37, .bipush 48, 2, mi_o), (39, .isub, 1, mi_o), (40, .istore_n 1, 1, mi_o), (41, .aload_n 0, 1, mi_o), (42, .dup, 1, mi_o), (43, .getfield 163, 3, 9, 13, 0, 0, 337), (46, .iconst 1, 1, mi_o), (47, .iadd, 1, mi_o), (48, .putfield 163, 3, 9, 13, 0, 0, 337), (51, .iinc 2 1, 3, mi_o), (54, .goto (-43), 3, mi_o)]), (75, [(57, .aload_n 0, 1, mi_o), (58, .bipush 18, 2, mi_o), (60, .iload_n 1, 1, mi_o), (61, .iadd, 1, mi_o), (62, .invokevirtual 177, 3, 149, 0, 9, 0, 405), (65, .ireturn, 1, mi_o), (66, .aload_n 0, 1, mi_o), (67, .invokevirtual 166, 3, 147, 0, 9, 0, 404), (70, .invokestatic 180, 3, 151, 0, 9, 0, 406), (73, .istore_n 1, 1, mi_o), (74, .iload_n 1, 1, mi_o)]), (94, [(75, .ifCond .lt 19, 3, mi_o), (78, .aload_n 0, 1, mi_o), (79, .dup, 1, mi_o), (80, .getfield 163, 3, 9, 13, 0, 0, 337), (83, .iconst 1, 1, mi_o), (84, .iadd, 1, mi_o), (85, .putfield 163, 3, 9, 13, 0, 0, 337), (88, .aload_n 0, 1, mi_o), (89, .iload_n 1, 1, mi_o), (90, .invokevirtual 177, 3, 149, 0, 9, 0, 405), (93, .ireturn, 1, mi_o)]), (112, [(94, .aload_n 0, 1, mi_o), (95, .getfield 184, 3, 9, 14, 0, 0, 338), (98, .bipush 6, 2, mi_o), (100, .if_icmp .ne 5, 3, mi_o), (103, .iconst 0, 1, mi_o), (104, .ireturn, 1, mi_o), (105, .aload_n 0, 1, mi_o), (106, .dup, 1, mi_o), (107, .getfield 184, 3, 9, 14, 0, 0, 338), (110, .iconst 1, 1, mi_o), (111, .iadd, 1, mi_o)]), (137, [(112, .putfield 184, 3, 9, 14, 0, 0, 338), (115, .aload_n 0, 1, mi_o), (116, .bipush 33, 2, mi_o), (118, .invokevirtual 187, 3, 148, 0, 9, 0, 407), (121, .ifCond .eq 28, 3, mi_o), (124, .aload_n 0, 1, mi_o), (125, .invokevirtual 190, 3, 152, 0, 9, 0, 402), (128, .ifCond .eq 16, 3, mi_o), (131, .aload_n 0, 1, mi_o), (132, .bipush 16, 2, mi_o), (134, .invokevirtual 177, 3, 149, 0, 9, 0, 405)]), (159, [(137, .ifCond .eq 7, 3, mi_o), (140, .iconst 1, 1, mi_o), (141, .goto 4, 3, mi_o), (144, .iconst 0, 1, mi_o), (145, .istore_n 2, 1, mi_o), (146, .goto 68, 3, mi_o), (149, .aload_n 0, 1, mi_o), (150, .bipush 45, 2, mi_o), (152, .invokevirtual 187, 3, 148, 0, 9, 0, 407), (155, .ifCond .eq 28, 3, mi_o), (158, .aload_n 0, 1, mi_o)]), (183, [(159, .invokevirtual 190, 3, 152, 0, 9, 0, 402), (162, .ifCond .eq 16, 3, mi_o), (165, .aload_n 0, 1, mi_o), (166, .bipush 17, 2, mi_o), (168, .invokevirtual 177, 3, 149, 0, 9, 0, 405), (171, .ifCond .eq 7, 3, mi_o), (174, .iconst 1, 1, mi_o), (175, .goto 4, 3, mi_o), (178, .iconst 0, 1, mi_o), (179, .istore_n 2, 1, mi_o), (180, .goto 34, 3, mi_o)]), (208, [(183, .aload_n 0, 1, mi_o), (184, .bipush 40, 2, mi_o), (186, .invokevirtual 187, 3, 148, 0, 9, 0, 407), (189, .ifCond .eq 23, 3, mi_o), (192, .aload_n 0, 1, mi_o), (193, .invokevirtual 193, 3, 157, 0, 9, 0, 397), (196, .ifCond .eq 16, 3, mi_o), (199, .aload_n 0, 1, mi_o), (200, .bipush 41, 2, mi_o), (202, .invokevirtual 187, 3, 148, 0, 9, 0, 407), (205, .ifCond .eq 7, 3, mi_o)]), (225, [(208, .iconst 1, 1, mi_o), (209, .goto 4, 3, mi_o), (212, .iconst 0, 1, mi_o), (213, .istore_n 2, 1, mi_o), (214, .aload_n 0, 1, mi_o), (215, .dup, 1, mi_o), (216, .getfield 184, 3, 9, 14, 0, 0, 338), (219, .iconst 1, 1, mi_o), (220, .isub, 1, mi_o), (221, .putfield 184, 3, 9, 14, 0, 0, 338), (224, .iload_n 2, 1, mi_o)]), (100000, [(225, .ireturn, 1, mi_o)])]
noncomputable def mi_c152 : List (Nat × mi_I) := ft_flat ft_152
noncomputable def ft_153 : List (Nat × List (Nat × mi_I)) := [(10, [(0, .aload_n 0, 1, mi_o), (1, .invokevirtual 190, 3, 152, 0, 9, 0, 402), (4, .ifCond .ne 5, 3, mi_o), (7, .iconst 0, 1, mi_o), (8, .ireturn, 1, mi_o), (9, .aload_n 0, 1, mi_o)]), (24, [(10, .invokevirtual 166, 3, 147, 0, 9, 0, 404), (13, .bipush 42, 2, mi_o), (15, .if_icmp .ne 8, 3, mi_o), (18, .bipush 13, 2, mi_o), (20, .goto 32, 3, mi_o), (23, .aload_n 0, 1, mi_o)]), (38, [(24, .invokevirtual 166, 3, 147, 0, 9, 0, 404), (27, .bipush 47, 2, mi_o), (29, .if_icmp .ne 8, 3, mi_o), (32, .bipush 14, 2, mi_o), (34, .goto 18, 3, mi_o), (37, .aload_n 0, 1, mi_o)]), (52, [(38, .invokevirtual 166, 3, 147, 0, 9, 0, 404), (41, .bipush 37, 2, mi_o), (43, .if_icmp .ne 8, 3, mi_o), (46, .bipush 15, 2, mi_o), (48, .goto 4, 3, mi_o), (51, .iconst (-1), 1, mi_o)]), (60, [(52, .istore_n 1, 1, mi_o), (53, .iload_n 1, 1, mi_o), (54, .ifCond .ge 5, 3, mi_o), (57, .iconst 1, 1, mi_o), (58, .ireturn, 1, mi_o), (59, .aload_n 0, 1, mi_o)]), (70, [(60, .dup, 1, mi_o), (61, .getfield 163, 3, 9, 13, 0, 0, 337), (64, .iconst 1, 1, mi_o), (65, .iadd, 1, mi_o), (66, .putfield 163, 3, 9, 13, 0, 0, 337), (69, .aload_n 0, 1, mi_o)]), (80, [(70, .invokevirtual 190, 3, 152, 0, 9, 0, 402), (73, .ifCond .ne 5, 3, mi_o), (76, .iconst 0, 1, mi_o), (77, .ireturn, 1, mi_o), (78, .aload_n 0, 1, mi_o), (79, .iload_n 1, 1, mi_o)]), (100000, [(80, .invokevirtual 177, 3, 149, 0, 9, 0, 405), (83, .pop, 1, mi_o), (84, .goto (-75), 3, mi_o)])]
noncomputable def mi_c153 : List (Nat × mi_I) := ft_flat ft_153
noncomputable def ft_154 : List (Nat × List (Nat × mi_I)) := [(10, [(0, .aload_n 0, 1, mi_o), (1, .invokevirtual 196, 3, 153, 0, 9, 0, 401), (4, .ifCond .ne 5, 3, mi_o), (7, .iconst 0, 1, mi_o), (8, .ireturn, 1, mi_o), (9, .aload_n 0, 1, mi_o)]), (24, [(10, .invokevirtual 166, 3, 147, 0, 9, 0, 404), (13, .bipush 43, 2, mi_o), (15, .if_icmp .ne 8, 3, mi_o), (18, .bipush 11, 2, mi_o), (20, .goto 18, 3, mi_o), (23, .aload_n 0, 1, mi_o)]), (38, [(24, .invokevirtual 166, 3, 147, 0, 9, 0, 404), (27, .bipush 45, 2, mi_o), (29, .if_icmp .ne 8, 3, mi_o), (32, .bipush 12, 2, mi_o), (34, .goto 4, 3, mi_o), (37, .iconst (-1), 1, mi_o)]), (46, [(38, .istore_n 1, 1, mi_o), (39, .iload_n 1, 1, mi_o), (40, .ifCond .ge 5, 3, mi_o), (43, .iconst 1, 1, mi_o), (44, .ireturn, 1, mi_o), (45, .aload_n 0, 1, mi_o)]), (56, [(46, .dup, 1, mi_o), (47, .getfield 163, 3, 9, 13, 0, 0, 337), (50, .iconst 1, 1, mi_o), (51, .iadd, 1, mi_o), (52, .putfield 163, 3, 9, 13, 0, 0, 337), (55, .aload_n 0, 1, mi_o)]), (66, [(56, .invokevirtual 196, 3, 153, 0, 9, 0, 401), (59, .ifCond .ne 5, 3, mi_o), (62, .iconst 0, 1, mi_o), (63, .ireturn, 1, mi_o), (64, .aload_n 0, 1, mi_o), (65, .iload_n 1, 1, mi_o)]), (100000, [(66, .invokevirtual 177, 3, 149, 0, 9, 0, 405), (69, .pop, 1, mi_o), (70, .goto (-61), 3, mi_o)])]
noncomputable def mi_c154 : List (Nat × mi_I) := ft_flat ft_154
noncomputable def ft_155 : List (Nat × List (Nat × mi_I)) := [(10, [(0, .aload_n 0, 1, mi_o), (1, .invokevirtual 199, 3, 154, 0, 9, 0, 400), (4, .ifCond .ne 5, 3, mi_o), (7, .iconst 0, 1, mi_o), (8, .ireturn, 1, mi_o), (9, .aload_n 0, 1, mi_o)]), (24, [(10, .invokevirtual 166, 3, 147, 0, 9, 0, 404), (13, .bipush 60, 2, mi_o), (15, .if_icmp .ne 8, 3, mi_o), (18, .bipush 8, 2, mi_o), (20, .goto 32, 3, mi_o), (23, .aload_n 0, 1, mi_o)]), (38, [(24, .invokevirtual 166, 3, 147, 0, 9, 0, 404), (27, .bipush 61, 2, mi_o), (29, .if_icmp .ne 8, 3, mi_o), (32, .bipush 9, 2, mi_o), (34, .goto 18, 3, mi_o), (37, .aload_n 0, 1, mi_o)]), (52, [(38, .invokevirtual 166, 3, 147, 0, 9, 0, 404), (41, .bipush 62, 2, mi_o), (43, .if_icmp .ne 8, 3, mi_o), (46, .bipush 10, 2, mi_o), (48, .goto 4, 3, mi_o), (51, .iconst (-1), 1, mi_o)]), (60, [(52, .istore_n 1, 1, mi_o), (53, .iload_n 1, 1, mi_o), (54, .ifCond .ge 5, 3, mi_o), (57, .iconst 1, 1, mi_o), (58, .ireturn, 1, mi_o), (59, .aload_n 0, 1, mi_o)]), (70, [(60, .dup, 1, mi_o), (61, .getfield 163, 3, 9, 13, 0, 0, 337), (64, .iconst 1, 1, mi_o), (65, .iadd, 1, mi_o), (66, .putfield 163, 3, 9, 13, 0, 0, 337), (69, .aload_n 0, 1, mi_o)]), (84, [(70, .invokevirtual 199, 3, 154, 0, 9, 0, 400), (73, .ifCond .eq 15, 3, mi_o), (76, .aload_n 0, 1, mi_o), (77, .iload_n 1, 1, mi_o), (78, .invokevirtual 177, 3, 149, 0, 9, 0, 405), (81, .ifCond .eq 7, 3, mi_o)]), (100000, [(84, .iconst 1, 1, mi_o), (85, .goto 4, 3, mi_o), (88, .iconst 0, 1, mi_o), (89, .ireturn, 1, mi_o)])]
noncomputable def mi_c155 : List (Nat × mi_I) := ft_flat ft_155
noncomputable def ft_156 : List (Nat × List (Nat × mi_I)) := [(8, [(0, .aload_n 0, 1, mi_o), (1, .invokevirtual 202, 3, 155, 0, 9, 0, 399), (4, .ifCond .ne 5, 3, mi_o), (7, .iconst 0, 1, mi_o)]), (15, [(8, .ireturn, 1, mi_o), (9, .aload_n 0, 1, mi_o), (10, .bipush 38, 2, mi_o), (12, .invokevirtual 187, 3, 148, 0, 9, 0, 407)]), (25, [(15, .ifCond .eq 22, 3, mi_o), (18, .aload_n 0, 1, mi_o), (19, .invokevirtual 202, 3, 155, 0, 9, 0, 399), (22, .ifCond .ne 5, 3, mi_o)]), (30, [(25, .iconst 0, 1, mi_o), (26, .ireturn, 1, mi_o), (27, .aload_n 0, 1, mi_o), (28, .bipush 7, 2, mi_o)]), (38, [(30, .invokevirtual 177, 3, 149, 0, 9, 0, 405), (33, .pop, 1, mi_o), (34, .goto (-25), 3, mi_o), (37, .iconst 1, 1, mi_o)]), (100000, [(38, .ireturn, 1, mi_o)])]
noncomputable def mi_c156 : List (Nat × mi_I) := ft_flat ft_156
noncomputable def ft_157 : List (Nat × List (Nat × mi_I)) := [(8, [(0, .aload_n 0, 1, mi_o), (1, .invokevirtual 205, 3, 156, 0, 9, 0, 398), (4, .ifCond .ne 5, 3, mi_o), (7, .iconst 0, 1, mi_o)]), (15, [(8, .ireturn, 1, mi_o), (9, .aload_n 0, 1, mi_o), (10, .bipush 124, 2, mi_o), (12, .invokevirtual 187, 3, 148, 0, 9, 0, 407)]), (25, [(15, .ifCond .eq 22, 3, mi_o), (18, .aload_n 0, 1, mi_o), (19, .invokevirtual 205, 3, 156, 0, 9, 0, 398), (22, .ifCond .ne 5, 3, mi_o)]), (30, [(25, .iconst 0, 1, mi_o), (26, .ireturn, 1, mi_o), (27, .aload_n 0, 1, mi_o), (28, .bipush 6, 2, mi_o)]), (38, [(30, .invokevirtual 177, 3, 149, 0, 9, 0, 405), (33, .pop, 1, mi_o), (34, .goto (-25), 3, mi_o), (37, .iconst 1, 1, mi_o)]), (100000, [(38, .ireturn, 1, mi_o)])]
noncomputable def mi_c157 : List (Nat × mi_I) := ft_flat ft_157
noncomputable def ft_158 : List (Nat × List (Nat × mi_I)) := [(13, [(0, .aload_n 0, 1, mi_o), (1, .getfield 40, 3, 9, 17, 0, 0, 341), (4, .aload_n 0, 1, mi_o), (5, .getfield 208, 3, 9, 16, 0, 0, 340), (8, .aload_n 0, 1, mi_o), (9, .getfield 170, 3, 9, 15, 0, 0, 339), (12, .iastore, 1, mi_o)]), (26, [(13, .aload_n 0, 1, mi_o), (14, .invokevirtual 193, 3, 157, 0, 9, 0, 397), (17, .ifCond .ne 5, 3, mi_o), (20, .iconst 0, 1, mi_o), (21, .ireturn, 1, mi_o), (22, .aload_n 0, 1, mi_o), (23, .getfield 43, 3, 9, 18, 0, 0, 342)]), (39, [(26, .aload_n 0, 1, mi_o), (27, .getfield 208, 3, 9, 16, 0, 0, 340), (30, .aload_n 0, 1, mi_o), (31, .getfield 40, 3, 9, 17, 0, 0, 341), (34, .aload_n 0, 1, mi_o), (35, .getfield 208, 3, 9, 16, 0, 0, 340), (38, .iaload, 1, mi_o)]), (53, [(39, .iastore, 1, mi_o), (40, .aload_n 0, 1, mi_o), (41, .bipush 63, 2, mi_o), (43, .invokevirtual 187, 3, 148, 0, 9, 0, 407), (46, .ifCond .eq 25, 3, mi_o), (49, .aload_n 0, 1, mi_o), (50, .getfield 43, 3, 9, 18, 0, 0, 342)]), (66, [(53, .aload_n 0, 1, mi_o), (54, .getfield 208, 3, 9, 16, 0, 0, 340), (57, .aload_n 0, 1, mi_o), (58, .getfield 170, 3, 9, 15, 0, 0, 339), (61, .iastore, 1, mi_o), (62, .aload_n 0, 1, mi_o), (63, .invokevirtual 193, 3, 157, 0, 9, 0, 397)]), (77, [(66, .ifCond .ne 5, 3, mi_o), (69, .iconst 0, 1, mi_o), (70, .ireturn, 1, mi_o), (71, .aload_n 0, 1, mi_o), (72, .getfield 46, 3, 9, 19, 0, 0, 343), (75, .aload_n 0, 1, mi_o), (76, .dup, 1, mi_o)]), (90, [(77, .getfield 208, 3, 9, 16, 0, 0, 340), (80, .dup_x1, 1, mi_o), (81, .iconst 1, 1, mi_o), (82, .iadd, 1, mi_o), (83, .putfield 208, 3, 9, 16, 0, 0, 340), (86, .aload_n 0, 1, mi_o), (87, .getfield 170, 3, 9, 15, 0, 0, 339)]), (100000, [(90, .iastore, 1, mi_o), (91, .iconst 1, 1, mi_o), (92, .ireturn, 1, mi_o)])]
noncomputable def mi_c158 : List (Nat × mi_I) := ft_flat ft_158
noncomputable def ft_159 : List (Nat × List (Nat × mi_I)) := [(16, [(0, .aload_n 0, 1, mi_o), (1, .iconst 0, 1, mi_o), (2, .putfield 163, 3, 9, 13, 0, 0, 337), (5, .aload_n 0, 1, mi_o), (6, .iconst 0, 1, mi_o), (7, .putfield 184, 3, 9, 14, 0, 0, 338), (10, .aload_n 0, 1, mi_o), (11, .iconst 0, 1, mi_o), (12, .putfield 170, 3, 9, 15, 0, 0, 339), (15, .aload_n 0, 1, mi_o)]), (35, [(16, .iconst 0, 1, mi_o), (17, .putfield 208, 3, 9, 16, 0, 0, 340), (20, .aload_n 0, 1, mi_o), (21, .invokevirtual 211, 3, 158, 0, 9, 0, 396), (24, .istore_n 1, 1, mi_o), (25, .iload_n 1, 1, mi_o), (26, .ifCond .eq 20, 3, mi_o), (29, .aload_n 0, 1, mi_o), (30, .bipush 59, 2, mi_o), (32, .invokevirtual 187, 3, 148, 0, 9, 0, 407)]), (55, [(35, .ifCond .eq 11, 3, mi_o), (38, .aload_n 0, 1, mi_o), (39, .invokevirtual 211, 3, 158, 0, 9, 0, 396), (42, .istore_n 1, 1, mi_o), (43, .goto (-18), 3, mi_o), (46, .iload_n 1, 1, mi_o), (47, .ifCond .eq 18, 3, mi_o), (50, .aload_n 0, 1, mi_o), (51, .getfield 163, 3, 9, 13, 0, 0, 337), (54, .aload_n 0, 1, mi_o)]), (73, [(55, .getfield 160, 3, 9, 5, 0, 0, 329), (58, .if_icmp .ne 7, 3, mi_o), (61, .iconst 1, 1, mi_o), (62, .goto 4, 3, mi_o), (65, .iconst 0, 1, mi_o), (66, .istore_n 2, 1, mi_o), (67, .aload_n 0, 1, mi_o), (68, .iconst 0, 1, mi_o), (69, .putfield 160, 3, 9, 5, 0, 0, 329), (72, .iload_n 2, 1, mi_o)]), (90, [(73, .ifCond .ne 11, 3, mi_o), (76, .bipush (-100), 2, mi_o), (78, .aload_n 0, 1, mi_o), (79, .getfield 163, 3, 9, 13, 0, 0, 337), (82, .isub, 1, mi_o), (83, .ireturn, 1, mi_o), (84, .aload_n 0, 1, mi_o), (85, .iconst 1, 1, mi_o), (86, .putfield 214, 3, 9, 7, 0, 0, 331), (89, .aload_n 0, 1, mi_o)]), (108, [(90, .aload_n 0, 1, mi_o), (91, .getfield 208, 3, 9, 16, 0, 0, 340), (94, .putfield 218, 3, 9, 8, 0, 0, 332), (97, .iconst 0, 1, mi_o), (98, .istore_n 3, 1, mi_o), (99, .iload_n 3, 1, mi_o), (100, .aload_n 0, 1, mi_o), (101, .getfield 218, 3, 9, 8, 0, 0, 332), (104, .if_icmp .ge 45, 3, mi_o), (107, .aload_n 0, 1, mi_o)]), (124, [(108, .getfield 28, 3, 9, 9, 0, 0, 333), (111, .iload_n 3, 1, mi_o), (112, .aload_n 0, 1, mi_o), (113, .getfield 40, 3, 9, 17, 0, 0, 341), (116, .iload_n 3, 1, mi_o), (117, .iaload, 1, mi_o), (118, .iastore, 1, mi_o), (119, .aload_n 0, 1, mi_o), (120, .getfield 31, 3, 9, 10, 0, 0, 334), (123, .iload_n 3, 1, mi_o)]), (140, [(124, .aload_n 0, 1, mi_o), (125, .getfield 43, 3, 9, 18, 0, 0, 342), (128, .iload_n 3, 1, mi_o), (129, .iaload, 1, mi_o), (130, .iastore, 1, mi_o), (131, .aload_n 0, 1, mi_o), (132, .getfield 34, 3, 9, 11, 0, 0, 335), (135, .iload_n 3, 1, mi_o), (136, .aload_n 0, 1, mi_o), (137, .getfield 46, 3, 9, 19, 0, 0, 343)]), (156, [(140, .iload_n 3, 1, mi_o), (141, .iaload, 1, mi_o), (142, .iastore, 1, mi_o), (143, .iinc 3 1, 3, mi_o), (146, .goto (-47), 3, mi_o), (149, .iconst 0, 1, mi_o), (150, .istore_n 3, 1, mi_o), (151, .iload_n 3, 1, mi_o), (152, .aload_n 0, 1, mi_o), (153, .getfield 170, 3, 9, 15, 0, 0, 339)]), (174, [(156, .if_icmp .ge 21, 3, mi_o), (159, .aload_n 0, 1, mi_o), (160, .getfield 37, 3, 9, 12, 0, 0, 336), (163, .iload_n 3, 1, mi_o), (164, .aload_n 0, 1, mi_o), (165, .getfield 49, 3, 9, 20, 0, 0, 344), (168, .iload_n 3, 1, mi_o), (169, .iaload, 1, mi_o), (170, .iastore, 1, mi_o), (171, .iinc 3 1, 3, mi_o)]), (100000, [(174, .goto (-23), 3, mi_o), (177, .iconst 1, 1, mi_o), (178, .ireturn, 1, mi_o)])]
noncomputable def mi_c159 : List (Nat × mi_I) := ft_flat ft_159
noncomputable def ft_160 : List (Nat × List (Nat × mi_I)) := [(64, [(0, .iload_n 0, 1, mi_o), (1, .tableswitch 136 6 14 #[51, 65, 79, 90, 101, 112, 116, 120, 124], 51, mi_o), (52, .iload_n 1, 1, mi_o), (53, .ifCond .ne 7, 3, mi_o), (56, .iload_n 2, 1, mi_o), (57, .ifCond .eq 7, 3, mi_o), (60, .iconst 1, 1, mi_o), (61, .goto 4, 3, mi_o)]), (78, [(64, .iconst 0, 1, mi_o), (65, .ireturn, 1, mi_o), (66, .iload_n 1, 1, mi_o), (67, .ifCond .eq 11, 3, mi_o), (70, .iload_n 2, 1, mi_o), (71, .ifCond .eq 7, 3, mi_o), (74, .iconst 1, 1, mi_o), (75, .goto 4, 3, mi_o)]), (90, [(78, .iconst 0, 1, mi_o), (79, .ireturn, 1, mi_o), (80, .iload_n 1, 1, mi_o), (81, .iload_n 2, 1, mi_o), (82, .if_icmp .ge 7, 3, mi_o), (85, .iconst 1, 1, mi_o), (86, .goto 4, 3, mi_o), (89, .iconst 0, 1, mi_o)]), (102, [(90, .ireturn, 1, mi_o), (91, .iload_n 1, 1, mi_o), (92, .iload_n 2, 1, mi_o), (93, .if_icmp .ne 7, 3, mi_o), (96, .iconst 1, 1, mi_o), (97, .goto 4, 3, mi_o), (100, .iconst 0, 1, mi_o), (101, .ireturn, 1, mi_o)]), (114, [(102, .iload_n 1, 1, mi_o), (103, .iload_n 2, 1, mi_o), (104, .if_icmp .le 7, 3, mi_o), (107, .iconst 1, 1, mi_o), (108, .goto 4, 3, mi_o), (111, .iconst 0, 1, mi_o), (112, .ireturn, 1, mi_o), (113, .iload_n 1, 1, mi_o)]), (122, [(114, .iload_n 2, 1, mi_o), (115, .iadd, 1, mi_o), (116, .ireturn, 1, mi_o), (117, .iload_n 1, 1, mi_o), (118, .iload_n 2, 1, mi_o), (119, .isub, 1, mi_o), (120, .ireturn, 1, mi_o), (121, .iload_n 1, 1, mi_o)]), (134, [(122, .iload_n 2, 1, mi_o), (123, .imul, 1, mi_o), (124, .ireturn, 1, mi_o), (125, .iload_n 2, 1, mi_o), (126, .ifCond .ne 7, 3, mi_o), (129, .iconst 0, 1, mi_o), (130, .goto 6, 3, mi_o), (133, .iload_n 1, 1, mi_o)]), (146, [(134, .iload_n 2, 1, mi_o), (135, .idiv, 1, mi_o), (136, .ireturn, 1, mi_o), (137, .iload_n 2, 1, mi_o), (138, .ifCond .ne 7, 3, mi_o), (141, .iconst 0, 1, mi_o), (142, .goto 6, 3, mi_o), (145, .iload_n 1, 1, mi_o)]), (100000, [(146, .iload_n 2, 1, mi_o), (147, .irem, 1, mi_o), (148, .ireturn, 1, mi_o)])]
noncomputable def mi_c160 : List (Nat × mi_I) := ft_flat ft_160
noncomputable def ft_161 : List (Nat × List (Nat × mi_I)) := [(15, [(0, .iconst 0, 1, mi_o), (1, .istore_n 3, 1, mi_o), (2, .iload_n 1, 1, mi_o), (3, .istore 4, 2, mi_o), (5, .iload 4, 2, mi_o), (7, .iload_n 2, 1, mi_o), (8, .if_icmp .ge 155, 3, mi_o), (11, .aload_n 0, 1, mi_o), (12, .getfield 37, 3, 9, 12, 0, 0, 336)]), (33, [(15, .iload 4, 2, mi_o), (17, .iaload, 1, mi_o), (18, .istore 5, 2, mi_o), (20, .iload 5, 2, mi_o), (22, .bipush 18, 2, mi_o), (24, .if_icmp .ge 9, 3, mi_o), (27, .iload 5, 2, mi_o), (29, .iconst 5, 1, mi_o), (30, .if_icmp .gt 37, 3, mi_o)]), (52, [(33, .aload_n 0, 1, mi_o), (34, .getfield 52, 3, 9, 21, 0, 0, 345), (37, .iload_n 3, 1, mi_o), (38, .iinc 3 1, 3, mi_o), (41, .iload 5, 2, mi_o), (43, .bipush 18, 2, mi_o), (45, .if_icmp .lt 11, 3, mi_o), (48, .iload 5, 2, mi_o), (50, .bipush 18, 2, mi_o)]), (69, [(52, .isub, 1, mi_o), (53, .goto 10, 3, mi_o), (56, .aload_n 0, 1, mi_o), (57, .getfield 55, 3, 9, 22, 0, 0, 346), (60, .iload 5, 2, mi_o), (62, .iaload, 1, mi_o), (63, .iastore, 1, mi_o), (64, .goto 93, 3, mi_o), (67, .iload 5, 2, mi_o)]), (87, [(69, .bipush 16, 2, mi_o), (71, .if_icmp .eq 10, 3, mi_o), (74, .iload 5, 2, mi_o), (76, .bipush 17, 2, mi_o), (78, .if_icmp .ne 49, 3, mi_o), (81, .aload_n 0, 1, mi_o), (82, .getfield 52, 3, 9, 21, 0, 0, 345), (85, .iload_n 3, 1, mi_o), (86, .iconst 1, 1, mi_o)]), (102, [(87, .isub, 1, mi_o), (88, .iload 5, 2, mi_o), (90, .bipush 17, 2, mi_o), (92, .if_icmp .ne 15, 3, mi_o), (95, .aload_n 0, 1, mi_o), (96, .getfield 52, 3, 9, 21, 0, 0, 345), (99, .iload_n 3, 1, mi_o), (100, .iconst 1, 1, mi_o), (101, .isub, 1, mi_o)]), (115, [(102, .iaload, 1, mi_o), (103, .ineg, 1, mi_o), (104, .goto 19, 3, mi_o), (107, .aload_n 0, 1, mi_o), (108, .getfield 52, 3, 9, 21, 0, 0, 345), (111, .iload_n 3, 1, mi_o), (112, .iconst 1, 1, mi_o), (113, .isub, 1, mi_o), (114, .iaload, 1, mi_o)]), (134, [(115, .ifCond .ne 7, 3, mi_o), (118, .iconst 1, 1, mi_o), (119, .goto 4, 3, mi_o), (122, .iconst 0, 1, mi_o), (123, .iastore, 1, mi_o), (124, .goto 33, 3, mi_o), (127, .iinc 3 (-1), 3, mi_o), (130, .aload_n 0, 1, mi_o), (131, .getfield 52, 3, 9, 21, 0, 0, 345)]), (146, [(134, .iload_n 3, 1, mi_o), (135, .iconst 1, 1, mi_o), (136, .isub, 1, mi_o), (137, .iload 5, 2, mi_o), (139, .aload_n 0, 1, mi_o), (140, .getfield 52, 3, 9, 21, 0, 0, 345), (143, .iload_n 3, 1, mi_o), (144, .iconst 1, 1, mi_o), (145, .isub, 1, mi_o)]), (163, [(146, .iaload, 1, mi_o), (147, .aload_n 0, 1, mi_o), (148, .getfield 52, 3, 9, 21, 0, 0, 345), (151, .iload_n 3, 1, mi_o), (152, .iaload, 1, mi_o), (153, .invokestatic 221, 3, 160, 0, 9, 0, 421), (156, .iastore, 1, mi_o), (157, .iinc 4 1, 3, mi_o), (160, .goto (-155), 3, mi_o)]), (100000, [(163, .aload_n 0, 1, mi_o), (164, .getfield 52, 3, 9, 21, 0, 0, 345), (167, .iconst 0, 1, mi_o), (168, .iaload, 1, mi_o), (169, .ireturn, 1, mi_o)])]
noncomputable def mi_c161 : List (Nat × mi_I) := ft_flat ft_161
noncomputable def ft_162 : List (Nat × List (Nat × mi_I)) := [(13, [(0, .aload_n 0, 1, mi_o), (1, .getfield 55, 3, 9, 22, 0, 0, 346), (4, .iconst 0, 1, mi_o), (5, .aload_n 0, 1, mi_o), (6, .getfield 9, 3, 9, 1, 0, 0, 325), (9, .iload_n 1, 1, mi_o), (10, .iaload, 1, mi_o), (11, .iastore, 1, mi_o), (12, .aload_n 0, 1, mi_o)]), (27, [(13, .getfield 55, 3, 9, 22, 0, 0, 346), (16, .iconst 2, 1, mi_o), (17, .aload_n 0, 1, mi_o), (18, .getfield 9, 3, 9, 1, 0, 0, 325), (21, .bipush 8, 2, mi_o), (23, .iload_n 1, 1, mi_o), (24, .iadd, 1, mi_o), (25, .iaload, 1, mi_o), (26, .iastore, 1, mi_o)]), (41, [(27, .aload_n 0, 1, mi_o), (28, .getfield 55, 3, 9, 22, 0, 0, 346), (31, .iconst 3, 1, mi_o), (32, .aload_n 0, 1, mi_o), (33, .getfield 22, 3, 9, 4, 0, 0, 328), (36, .bipush 9, 2, mi_o), (38, .iaload, 1, mi_o), (39, .iastore, 1, mi_o), (40, .aload_n 0, 1, mi_o)]), (55, [(41, .getfield 55, 3, 9, 22, 0, 0, 346), (44, .iconst 4, 1, mi_o), (45, .aload_n 0, 1, mi_o), (46, .getfield 22, 3, 9, 4, 0, 0, 328), (49, .bipush 10, 2, mi_o), (51, .iload_n 1, 1, mi_o), (52, .iadd, 1, mi_o), (53, .iaload, 1, mi_o), (54, .iastore, 1, mi_o)]), (69, [(55, .aload_n 0, 1, mi_o), (56, .getfield 55, 3, 9, 22, 0, 0, 346), (59, .iconst 5, 1, mi_o), (60, .aload_n 0, 1, mi_o), (61, .getfield 22, 3, 9, 4, 0, 0, 328), (64, .bipush 8, 2, mi_o), (66, .iaload, 1, mi_o), (67, .iastore, 1, mi_o), (68, .iconst 0, 1, mi_o)]), (84, [(69, .istore_n 2, 1, mi_o), (70, .iload_n 2, 1, mi_o), (71, .aload_n 0, 1, mi_o), (72, .getfield 218, 3, 9, 8, 0, 0, 332), (75, .if_icmp .ge 63, 3, mi_o), (78, .aload_n 0, 1, mi_o), (79, .getfield 31, 3, 9, 10, 0, 0, 334), (82, .iload_n 2, 1, mi_o), (83, .iaload, 1, mi_o)]), (99, [(84, .aload_n 0, 1, mi_o), (85, .getfield 28, 3, 9, 9, 0, 0, 333), (88, .iload_n 2, 1, mi_o), (89, .iaload, 1, mi_o), (90, .if_icmp .le 25, 3, mi_o), (93, .aload_n 0, 1, mi_o), (94, .aload_n 0, 1, mi_o), (95, .getfield 28, 3, 9, 9, 0, 0, 333), (98, .iload_n 2, 1, mi_o)]), (116, [(99, .iaload, 1, mi_o), (100, .aload_n 0, 1, mi_o), (101, .getfield 31, 3, 9, 10, 0, 0, 334), (104, .iload_n 2, 1, mi_o), (105, .iaload, 1, mi_o), (106, .invokevirtual 224, 3, 161, 0, 9, 0, 420), (109, .ifCond .ne 6, 3, mi_o), (112, .goto 20, 3, mi_o), (115, .aload_n 0, 1, mi_o)]), (131, [(116, .aload_n 0, 1, mi_o), (117, .getfield 31, 3, 9, 10, 0, 0, 334), (120, .iload_n 2, 1, mi_o), (121, .iaload, 1, mi_o), (122, .aload_n 0, 1, mi_o), (123, .getfield 34, 3, 9, 11, 0, 0, 335), (126, .iload_n 2, 1, mi_o), (127, .iaload, 1, mi_o), (128, .invokevirtual 224, 3, 161, 0, 9, 0, 420)]), (100000, [(131, .ireturn, 1, mi_o), (132, .iinc 2 1, 3, mi_o), (135, .goto (-65), 3, mi_o), (138, .iconst 0, 1, mi_o), (139, .ireturn, 1, mi_o)])]
noncomputable def mi_c162 : List (Nat × mi_I) := ft_flat ft_162
noncomputable def ft_163 : List (Nat × List (Nat × mi_I)) := [(8, [(0, .aload_n 0, 1, mi_o), (1, .getfield 55, 3, 9, 22, 0, 0, 346), (4, .iconst 1, 1, mi_o), (5, .iload_n 2, 1, mi_o), (6, .iastore, 1, mi_o), (7, .aload_n 0, 1, mi_o)]), (22, [(8, .getfield 214, 3, 9, 7, 0, 0, 331), (11, .ifCond .eq 11, 3, mi_o), (14, .aload_n 0, 1, mi_o), (15, .iload_n 1, 1, mi_o), (16, .invokevirtual 227, 3, 162, 0, 9, 0, 419), (19, .goto 33, 3, mi_o)]), (30, [(22, .iconst 5, 1, mi_o), (23, .aload_n 0, 1, mi_o), (24, .getfield 9, 3, 9, 1, 0, 0, 325), (27, .iload_n 1, 1, mi_o), (28, .iaload, 1, mi_o), (29, .imul, 1, mi_o)]), (39, [(30, .aload_n 0, 1, mi_o), (31, .getfield 9, 3, 9, 1, 0, 0, 325), (34, .bipush 8, 2, mi_o), (36, .iload_n 1, 1, mi_o), (37, .iadd, 1, mi_o), (38, .iaload, 1, mi_o)]), (48, [(39, .iadd, 1, mi_o), (40, .iconst 2, 1, mi_o), (41, .aload_n 0, 1, mi_o), (42, .getfield 22, 3, 9, 4, 0, 0, 328), (45, .bipush 10, 2, mi_o), (47, .iload_n 1, 1, mi_o)]), (54, [(48, .iadd, 1, mi_o), (49, .iaload, 1, mi_o), (50, .imul, 1, mi_o), (51, .isub, 1, mi_o), (52, .istore_n 3, 1, mi_o), (53, .iconst 0, 1, mi_o)]), (100000, [(54, .bipush 99, 2, mi_o), (56, .iload_n 3, 1, mi_o), (57, .invokestatic 230, 3, 0, 0, 15, 0, 417), (60, .invokestatic 235, 3, 0, 0, 14, 0, 422), (63, .ireturn, 1, mi_o)])]
noncomputable def mi_c163 : List (Nat × mi_I) := ft_flat ft_163
noncomputable def ft_164 : List (Nat × List (Nat × mi_I)) := [(7, [(0, .iload_n 1, 1, mi_o), (1, .ifCond .lt 12, 3, mi_o), (4, .iload_n 2, 1, mi_o), (5, .iconst 0, 1, mi_o), (6, .iconst 1, 1, mi_o)]), (16, [(7, .invokestatic 119, 3, 131, 0, 9, 0, 379), (10, .ifCond .ne 5, 3, mi_o), (13, .iconst (-1), 1, mi_o), (14, .ireturn, 1, mi_o), (15, .iload_n 1, 1, mi_o)]), (26, [(16, .aload_n 0, 1, mi_o), (17, .getfield 22, 3, 9, 4, 0, 0, 328), (20, .bipush 18, 2, mi_o), (22, .iaload, 1, mi_o), (23, .if_icmp .lt 8, 3, mi_o)]), (37, [(26, .bipush (-2), 2, mi_o), (28, .goto 17, 3, mi_o), (31, .aload_n 0, 1, mi_o), (32, .getfield 22, 3, 9, 4, 0, 0, 328), (35, .bipush 19, 2, mi_o)]), (43, [(37, .bipush 6, 2, mi_o), (39, .iload_n 2, 1, mi_o), (40, .imul, 1, mi_o), (41, .iadd, 1, mi_o), (42, .iload_n 1, 1, mi_o)]), (100000, [(43, .iadd, 1, mi_o), (44, .iaload, 1, mi_o), (45, .ireturn, 1, mi_o)])]
noncomputable def mi_c164 : List (Nat × mi_I) := ft_flat ft_164
noncomputable def ft_165 : List (Nat × List (Nat × mi_I)) := [(16, [(0, .aload_n 0, 1, mi_o), (1, .getfield 22, 3, 9, 4, 0, 0, 328), (4, .bipush 19, 2, mi_o), (6, .iaload, 1, mi_o), (7, .istore_n 2, 1, mi_o), (8, .aload_n 0, 1, mi_o), (9, .getfield 22, 3, 9, 4, 0, 0, 328), (12, .bipush 25, 2, mi_o), (14, .iaload, 1, mi_o), (15, .istore_n 3, 1, mi_o)]), (30, [(16, .aload_n 0, 1, mi_o), (17, .getfield 22, 3, 9, 4, 0, 0, 328), (20, .bipush 18, 2, mi_o), (22, .dup2, 1, mi_o), (23, .iaload, 1, mi_o), (24, .iconst 1, 1, mi_o), (25, .isub, 1, mi_o), (26, .iastore, 1, mi_o), (27, .iconst 0, 1, mi_o), (28, .istore 4, 2, mi_o)]), (50, [(30, .iload 4, 2, mi_o), (32, .aload_n 0, 1, mi_o), (33, .getfield 22, 3, 9, 4, 0, 0, 328), (36, .bipush 18, 2, mi_o), (38, .iaload, 1, mi_o), (39, .if_icmp .ge 49, 3, mi_o), (42, .aload_n 0, 1, mi_o), (43, .getfield 22, 3, 9, 4, 0, 0, 328), (46, .bipush 19, 2, mi_o), (48, .iload 4, 2, mi_o)]), (66, [(50, .iadd, 1, mi_o), (51, .aload_n 0, 1, mi_o), (52, .getfield 22, 3, 9, 4, 0, 0, 328), (55, .bipush 20, 2, mi_o), (57, .iload 4, 2, mi_o), (59, .iadd, 1, mi_o), (60, .iaload, 1, mi_o), (61, .iastore, 1, mi_o), (62, .aload_n 0, 1, mi_o), (63, .getfield 22, 3, 9, 4, 0, 0, 328)]), (82, [(66, .bipush 25, 2, mi_o), (68, .iload 4, 2, mi_o), (70, .iadd, 1, mi_o), (71, .aload_n 0, 1, mi_o), (72, .getfield 22, 3, 9, 4, 0, 0, 328), (75, .bipush 26, 2, mi_o), (77, .iload 4, 2, mi_o), (79, .iadd, 1, mi_o), (80, .iaload, 1, mi_o), (81, .iastore, 1, mi_o)]), (103, [(82, .iinc 4 1, 3, mi_o), (85, .goto (-55), 3, mi_o), (88, .aload_n 0, 1, mi_o), (89, .getfield 238, 3, 9, 40, 0, 0, 364), (92, .bipush 8, 2, mi_o), (94, .if_icmp .ne 8, 3, mi_o), (97, .aload_n 0, 1, mi_o), (98, .iload_n 2, 1, mi_o), (99, .putfield 238, 3, 9, 40, 0, 0, 364), (102, .iload_n 2, 1, mi_o)]), (120, [(103, .iload_n 1, 1, mi_o), (104, .if_icmp .ne 4, 3, mi_o), (107, .return_, 1, mi_o), (108, .iload_n 3, 1, mi_o), (109, .aload_n 0, 1, mi_o), (110, .getfield 22, 3, 9, 4, 0, 0, 328), (113, .iload_n 2, 1, mi_o), (114, .iaload, 1, mi_o), (115, .invokestatic 230, 3, 0, 0, 15, 0, 417), (118, .istore 4, 2, mi_o)]), (135, [(120, .aload_n 0, 1, mi_o), (121, .dup, 1, mi_o), (122, .getfield 241, 3, 9, 43, 0, 0, 367), (125, .iload_n 3, 1, mi_o), (126, .iload 4, 2, mi_o), (128, .isub, 1, mi_o), (129, .iadd, 1, mi_o), (130, .putfield 241, 3, 9, 43, 0, 0, 367), (133, .aload_n 0, 1, mi_o), (134, .dup, 1, mi_o)]), (153, [(135, .getfield 244, 3, 9, 41, 0, 0, 365), (138, .iload 4, 2, mi_o), (140, .iadd, 1, mi_o), (141, .putfield 244, 3, 9, 41, 0, 0, 365), (144, .aload_n 0, 1, mi_o), (145, .getfield 92, 3, 9, 44, 0, 0, 368), (148, .bipush 8, 2, mi_o), (150, .iload_n 2, 1, mi_o), (151, .imul, 1, mi_o), (152, .iload_n 1, 1, mi_o)]), (166, [(153, .iadd, 1, mi_o), (154, .dup2, 1, mi_o), (155, .iaload, 1, mi_o), (156, .iload 4, 2, mi_o), (158, .iadd, 1, mi_o), (159, .iastore, 1, mi_o), (160, .aload_n 0, 1, mi_o), (161, .getfield 22, 3, 9, 4, 0, 0, 328), (164, .iload_n 2, 1, mi_o), (165, .dup2, 1, mi_o)]), (183, [(166, .iaload, 1, mi_o), (167, .iload 4, 2, mi_o), (169, .isub, 1, mi_o), (170, .iastore, 1, mi_o), (171, .aload_n 0, 1, mi_o), (172, .getfield 22, 3, 9, 4, 0, 0, 328), (175, .iload_n 1, 1, mi_o), (176, .sipush 999, 3, mi_o), (179, .aload_n 0, 1, mi_o), (180, .getfield 22, 3, 9, 4, 0, 0, 328)]), (100000, [(183, .iload_n 1, 1, mi_o), (184, .iaload, 1, mi_o), (185, .iload 4, 2, mi_o), (187, .iadd, 1, mi_o), (188, .invokestatic 230, 3, 0, 0, 15, 0, 417), (191, .iastore, 1, mi_o), (192, .return_, 1, mi_o)])]
noncomputable def mi_c165 : List (Nat × mi_I) := ft_flat ft_165
noncomputable def ft_166 : List (Nat × List (Nat × mi_I)) := [(16, [(0, .aload_n 0, 1, mi_o), (1, .bipush 8, 2, mi_o), (3, .putfield 238, 3, 9, 40, 0, 0, 364), (6, .aload_n 0, 1, mi_o), (7, .iconst 0, 1, mi_o), (8, .putfield 244, 3, 9, 41, 0, 0, 365), (11, .aload_n 0, 1, mi_o), (12, .iconst 0, 1, mi_o), (13, .putfield 247, 3, 9, 42, 0, 0, 366)]), (30, [(16, .aload_n 0, 1, mi_o), (17, .getfield 9, 3, 9, 1, 0, 0, 325), (20, .bipush 16, 2, mi_o), (22, .iload_n 1, 1, mi_o), (23, .iadd, 1, mi_o), (24, .iaload, 1, mi_o), (25, .iconst 1, 1, mi_o), (26, .if_icmp .ne 12, 3, mi_o), (29, .aload_n 0, 1, mi_o)]), (45, [(30, .getfield 19, 3, 9, 3, 0, 0, 327), (33, .ifCond .ne 5, 3, mi_o), (36, .iconst 0, 1, mi_o), (37, .ireturn, 1, mi_o), (38, .aload_n 0, 1, mi_o), (39, .getfield 22, 3, 9, 4, 0, 0, 328), (42, .iload_n 1, 1, mi_o), (43, .iaload, 1, mi_o), (44, .istore_n 2, 1, mi_o)]), (61, [(45, .aload_n 0, 1, mi_o), (46, .getfield 22, 3, 9, 4, 0, 0, 328), (49, .bipush 18, 2, mi_o), (51, .iaload, 1, mi_o), (52, .aload_n 0, 1, mi_o), (53, .getfield 15, 3, 9, 2, 0, 0, 326), (56, .if_icmp .lt 11, 3, mi_o), (59, .aload_n 0, 1, mi_o), (60, .iload_n 1, 1, mi_o)]), (78, [(61, .invokevirtual 250, 3, 165, 0, 9, 0, 416), (64, .goto (-19), 3, mi_o), (67, .aload_n 0, 1, mi_o), (68, .aload_n 0, 1, mi_o), (69, .iload_n 1, 1, mi_o), (70, .iload_n 2, 1, mi_o), (71, .invokevirtual 254, 3, 163, 0, 9, 0, 418), (74, .putfield 247, 3, 9, 42, 0, 0, 366), (77, .aload_n 0, 1, mi_o)]), (93, [(78, .getfield 22, 3, 9, 4, 0, 0, 328), (81, .bipush 19, 2, mi_o), (83, .aload_n 0, 1, mi_o), (84, .getfield 22, 3, 9, 4, 0, 0, 328), (87, .bipush 18, 2, mi_o), (89, .iaload, 1, mi_o), (90, .iadd, 1, mi_o), (91, .iload_n 1, 1, mi_o), (92, .iastore, 1, mi_o)]), (108, [(93, .aload_n 0, 1, mi_o), (94, .getfield 22, 3, 9, 4, 0, 0, 328), (97, .bipush 25, 2, mi_o), (99, .aload_n 0, 1, mi_o), (100, .getfield 22, 3, 9, 4, 0, 0, 328), (103, .bipush 18, 2, mi_o), (105, .iaload, 1, mi_o), (106, .iadd, 1, mi_o), (107, .aload_n 0, 1, mi_o)]), (122, [(108, .getfield 247, 3, 9, 42, 0, 0, 366), (111, .iastore, 1, mi_o), (112, .aload_n 0, 1, mi_o), (113, .getfield 22, 3, 9, 4, 0, 0, 328), (116, .bipush 18, 2, mi_o), (118, .dup2, 1, mi_o), (119, .iaload, 1, mi_o), (120, .iconst 1, 1, mi_o), (121, .iadd, 1, mi_o)]), (134, [(122, .iastore, 1, mi_o), (123, .aload_n 0, 1, mi_o), (124, .getfield 22, 3, 9, 4, 0, 0, 328), (127, .bipush 9, 2, mi_o), (129, .dup2, 1, mi_o), (130, .iaload, 1, mi_o), (131, .iconst 1, 1, mi_o), (132, .iadd, 1, mi_o), (133, .iastore, 1, mi_o)]), (146, [(134, .aload_n 0, 1, mi_o), (135, .getfield 22, 3, 9, 4, 0, 0, 328), (138, .bipush 10, 2, mi_o), (140, .iload_n 1, 1, mi_o), (141, .iadd, 1, mi_o), (142, .dup2, 1, mi_o), (143, .iaload, 1, mi_o), (144, .iconst 1, 1, mi_o), (145, .iadd, 1, mi_o)]), (100000, [(146, .iastore, 1, mi_o), (147, .iconst 1, 1, mi_o), (148, .ireturn, 1, mi_o)])]
noncomputable def mi_c166 : List (Nat × mi_I) := ft_flat ft_166
noncomputable def ft_167 : List (Nat × List (Nat × mi_I)) := [(9, [(0, .aload_n 0, 1, mi_o), (1, .getfield 22, 3, 9, 4, 0, 0, 328), (4, .bipush 8, 2, mi_o), (6, .bipush 99, 2, mi_o), (8, .aload_n 0, 1, mi_o)]), (17, [(9, .getfield 22, 3, 9, 4, 0, 0, 328), (12, .bipush 8, 2, mi_o), (14, .iaload, 1, mi_o), (15, .iconst 1, 1, mi_o), (16, .iadd, 1, mi_o)]), (25, [(17, .invokestatic 230, 3, 0, 0, 15, 0, 417), (20, .iastore, 1, mi_o), (21, .bipush 9, 2, mi_o), (23, .istore_n 1, 1, mi_o), (24, .iload_n 1, 1, mi_o)]), (35, [(25, .bipush 18, 2, mi_o), (27, .if_icmp .ge 16, 3, mi_o), (30, .aload_n 0, 1, mi_o), (31, .getfield 22, 3, 9, 4, 0, 0, 328), (34, .iload_n 1, 1, mi_o)]), (100000, [(35, .iconst 0, 1, mi_o), (36, .iastore, 1, mi_o), (37, .iinc 1 1, 3, mi_o), (40, .goto (-16), 3, mi_o), (43, .return_, 1, mi_o)])]
noncomputable def mi_c167 : List (Nat × mi_I) := ft_flat ft_167
noncomputable def ft_168 : List (Nat × List (Nat × mi_I)) := [(5, [(0, .iconst 0, 1, mi_o), (1, .istore_n 3, 1, mi_o), (2, .iload_n 3, 1, mi_o), (3, .bipush 31, 2, mi_o)]), (11, [(5, .if_icmp .ge 20, 3, mi_o), (8, .aload_n 1, 1, mi_o), (9, .iload_n 2, 1, mi_o), (10, .iload_n 3, 1, mi_o)]), (17, [(11, .iadd, 1, mi_o), (12, .aload_n 0, 1, mi_o), (13, .getfield 22, 3, 9, 4, 0, 0, 328), (16, .iload_n 3, 1, mi_o)]), (25, [(17, .iaload, 1, mi_o), (18, .iastore, 1, mi_o), (19, .iinc 3 1, 3, mi_o), (22, .goto (-20), 3, mi_o)]), (100000, [(25, .return_, 1, mi_o)])]
noncomputable def mi_c168 : List (Nat × mi_I) := ft_flat ft_168
noncomputable def ft_169 : List (Nat × List (Nat × mi_I)) := [(5, [(0, .iconst 0, 1, mi_o), (1, .istore_n 3, 1, mi_o), (2, .iload_n 3, 1, mi_o), (3, .bipush 31, 2, mi_o)]), (13, [(5, .if_icmp .ge 20, 3, mi_o), (8, .aload_n 0, 1, mi_o), (9, .getfield 22, 3, 9, 4, 0, 0, 328), (12, .iload_n 3, 1, mi_o)]), (17, [(13, .aload_n 1, 1, mi_o), (14, .iload_n 2, 1, mi_o), (15, .iload_n 3, 1, mi_o), (16, .iadd, 1, mi_o)]), (25, [(17, .iaload, 1, mi_o), (18, .iastore, 1, mi_o), (19, .iinc 3 1, 3, mi_o), (22, .goto (-20), 3, mi_o)]), (100000, [(25, .return_, 1, mi_o)])]
noncomputable def mi_c169 : List (Nat × mi_I) := ft_flat ft_169
noncomputable def ft_170 : List (Nat × List (Nat × mi_I)) := [(7, [(0, .iconst 0, 1, mi_o), (1, .istore_n 1, 1, mi_o), (2, .iload_n 1, 1, mi_o), (3, .aload_n 0, 1, mi_o), (4, .getfield 257, 3, 9, 45, 0, 0, 369)]), (16, [(7, .if_icmp .ge 50, 3, mi_o), (10, .aload_n 0, 1, mi_o), (11, .aload_n 0, 1, mi_o), (12, .getfield 95, 3, 9, 46, 0, 0, 370), (15, .iload_n 1, 1, mi_o)]), (25, [(16, .iaload, 1, mi_o), (17, .invokevirtual 260, 3, 166, 0, 9, 0, 415), (20, .pop, 1, mi_o), (21, .aload_n 0, 1, mi_o), (22, .getfield 98, 3, 9, 47, 0, 0, 371)]), (32, [(25, .iload_n 1, 1, mi_o), (26, .aload_n 0, 1, mi_o), (27, .getfield 238, 3, 9, 40, 0, 0, 364), (30, .iastore, 1, mi_o), (31, .aload_n 0, 1, mi_o)]), (41, [(32, .getfield 101, 3, 9, 48, 0, 0, 372), (35, .iload_n 1, 1, mi_o), (36, .aload_n 0, 1, mi_o), (37, .getfield 244, 3, 9, 41, 0, 0, 365), (40, .iastore, 1, mi_o)]), (50, [(41, .aload_n 0, 1, mi_o), (42, .getfield 104, 3, 9, 49, 0, 0, 373), (45, .iload_n 1, 1, mi_o), (46, .aload_n 0, 1, mi_o), (47, .getfield 247, 3, 9, 42, 0, 0, 366)]), (100000, [(50, .iastore, 1, mi_o), (51, .iinc 1 1, 3, mi_o), (54, .goto (-52), 3, mi_o), (57, .return_, 1, mi_o)])]
noncomputable def mi_c170 : List (Nat × mi_I) := ft_flat ft_170
noncomputable def ft_171 : List (Nat × List (Nat × mi_I)) := [(6, [(0, .aload_n 0, 1, mi_o), (1, .aload_n 0, 1, mi_o), (2, .getfield 86, 3, 9, 38, 0, 0, 362), (5, .iconst 0, 1, mi_o)]), (14, [(6, .invokevirtual 263, 3, 168, 0, 9, 0, 413), (9, .aload_n 0, 1, mi_o), (10, .iconst 0, 1, mi_o), (11, .putfield 241, 3, 9, 43, 0, 0, 367)]), (19, [(14, .iconst 0, 1, mi_o), (15, .istore_n 1, 1, mi_o), (16, .iload_n 1, 1, mi_o), (17, .bipush 64, 2, mi_o)]), (27, [(19, .if_icmp .ge 16, 3, mi_o), (22, .aload_n 0, 1, mi_o), (23, .getfield 92, 3, 9, 44, 0, 0, 368), (26, .iload_n 1, 1, mi_o)]), (35, [(27, .iconst 0, 1, mi_o), (28, .iastore, 1, mi_o), (29, .iinc 1 1, 3, mi_o), (32, .goto (-16), 3, mi_o)]), (100000, [(35, .return_, 1, mi_o)])]
noncomputable def mi_c171 : List (Nat × mi_I) := ft_flat ft_171
noncomputable def ft_172 : List (Nat × List (Nat × mi_I)) := [(8, [(0, .aload_n 0, 1, mi_o), (1, .invokevirtual 267, 3, 171, 0, 9, 0, 412), (4, .aload_n 0, 1, mi_o), (5, .invokevirtual 270, 3, 170, 0, 9, 0, 414)]), (14, [(8, .aload_n 0, 1, mi_o), (9, .getfield 22, 3, 9, 4, 0, 0, 328), (12, .iload_n 1, 1, mi_o), (13, .iaload, 1, mi_o)]), (20, [(14, .istore_n 2, 1, mi_o), (15, .aload_n 0, 1, mi_o), (16, .aload_n 0, 1, mi_o), (17, .getfield 86, 3, 9, 38, 0, 0, 362)]), (100000, [(20, .iconst 0, 1, mi_o), (21, .invokevirtual 273, 3, 169, 0, 9, 0, 423), (24, .iload_n 2, 1, mi_o), (25, .ireturn, 1, mi_o)])]
noncomputable def mi_c172 : List (Nat × mi_I) := ft_flat ft_172
noncomputable def ft_173 : List (Nat × List (Nat × mi_I)) := [(6, [(0, .aload_n 0, 1, mi_o), (1, .getfield 76, 3, 9, 35, 0, 0, 359), (4, .iload_n 1, 1, mi_o), (5, .iaload, 1, mi_o)]), (15, [(6, .iconst (-1), 1, mi_o), (7, .if_icmp .ne 8, 3, mi_o), (10, .bipush (-11), 2, mi_o), (12, .goto 18, 3, mi_o)]), (21, [(15, .aload_n 0, 1, mi_o), (16, .getfield 76, 3, 9, 35, 0, 0, 359), (19, .iload_n 1, 1, mi_o), (20, .iaload, 1, mi_o)]), (30, [(21, .ifCond .eq 8, 3, mi_o), (24, .bipush (-12), 2, mi_o), (26, .goto 4, 3, mi_o), (29, .iconst 0, 1, mi_o)]), (100000, [(30, .ireturn, 1, mi_o)])]
noncomputable def mi_c173 : List (Nat × mi_I) := ft_flat ft_173
noncomputable def ft_174 : List (Nat × List (Nat × mi_I)) := [(11, [(0, .aload_n 0, 1, mi_o), (1, .iconst 0, 1, mi_o), (2, .putfield 257, 3, 9, 45, 0, 0, 369), (5, .aload_n 0, 1, mi_o), (6, .getfield 257, 3, 9, 45, 0, 0, 369), (9, .bipush 20, 2, mi_o)]), (23, [(11, .if_icmp .ge 63, 3, mi_o), (14, .aload_n 0, 1, mi_o), (15, .getfield 257, 3, 9, 45, 0, 0, 369), (18, .aload_n 0, 1, mi_o), (19, .getfield 79, 3, 9, 36, 0, 0, 360), (22, .iload_n 1, 1, mi_o)]), (31, [(23, .iaload, 1, mi_o), (24, .if_icmp .ge 50, 3, mi_o), (27, .aload_n 0, 1, mi_o), (28, .aload_n 0, 1, mi_o), (29, .iload_n 1, 1, mi_o), (30, .aload_n 0, 1, mi_o)]), (47, [(31, .getfield 257, 3, 9, 45, 0, 0, 369), (34, .invokevirtual 133, 3, 137, 0, 9, 0, 384), (37, .invokevirtual 137, 3, 132, 0, 9, 0, 387), (40, .ifCond .eq 34, 3, mi_o), (43, .aload_n 0, 1, mi_o), (44, .getfield 95, 3, 9, 46, 0, 0, 370)]), (57, [(47, .aload_n 0, 1, mi_o), (48, .getfield 257, 3, 9, 45, 0, 0, 369), (51, .aload_n 0, 1, mi_o), (52, .iload_n 1, 1, mi_o), (53, .aload_n 0, 1, mi_o), (54, .getfield 257, 3, 9, 45, 0, 0, 369)]), (67, [(57, .invokevirtual 133, 3, 137, 0, 9, 0, 384), (60, .iastore, 1, mi_o), (61, .aload_n 0, 1, mi_o), (62, .dup, 1, mi_o), (63, .getfield 257, 3, 9, 45, 0, 0, 369), (66, .iconst 1, 1, mi_o)]), (100000, [(67, .iadd, 1, mi_o), (68, .putfield 257, 3, 9, 45, 0, 0, 369), (71, .goto (-66), 3, mi_o), (74, .return_, 1, mi_o)])]
noncomputable def mi_c174 : List (Nat × mi_I) := ft_flat ft_174
noncomputable def ft_175 : List (Nat × List (Nat × mi_I)) := [(16, [(0, .iload_n 1, 1, mi_o), (1, .invokestatic 127, 3, 133, 0, 9, 0, 382), (4, .ifCond .eq 32, 3, mi_o), (7, .iload_n 3, 1, mi_o), (8, .iconst 0, 1, mi_o), (9, .iconst 3, 1, mi_o), (10, .invokestatic 119, 3, 131, 0, 9, 0, 379), (13, .ifCond .eq 23, 3, mi_o)]), (32, [(16, .iload_n 3, 1, mi_o), (17, .iconst 3, 1, mi_o), (18, .if_icmp .ne 14, 3, mi_o), (21, .aload_n 0, 1, mi_o), (22, .iload_n 2, 1, mi_o), (23, .invokevirtual 137, 3, 132, 0, 9, 0, 387), (26, .ifCond .eq 10, 3, mi_o), (29, .goto 9, 3, mi_o)]), (45, [(32, .iload_n 2, 1, mi_o), (33, .ifCond .eq 5, 3, mi_o), (36, .iconst (-1), 1, mi_o), (37, .ireturn, 1, mi_o), (38, .aload_n 0, 1, mi_o), (39, .iload_n 1, 1, mi_o), (40, .invokevirtual 276, 3, 173, 0, 9, 0, 410), (43, .istore 4, 2, mi_o)]), (59, [(45, .iload 4, 2, mi_o), (47, .ifCond .ge 6, 3, mi_o), (50, .iload 4, 2, mi_o), (52, .ireturn, 1, mi_o), (53, .aload_n 0, 1, mi_o), (54, .iload_n 1, 1, mi_o), (55, .invokevirtual 279, 3, 174, 0, 9, 0, 411), (58, .aload_n 0, 1, mi_o)]), (77, [(59, .invokevirtual 267, 3, 171, 0, 9, 0, 412), (62, .aload_n 0, 1, mi_o), (63, .invokevirtual 270, 3, 170, 0, 9, 0, 414), (66, .iload_n 3, 1, mi_o), (67, .ifCond .ne 10, 3, mi_o), (70, .aload_n 0, 1, mi_o), (71, .getfield 257, 3, 9, 45, 0, 0, 369), (74, .goto 36, 3, mi_o)]), (91, [(77, .iload_n 3, 1, mi_o), (78, .iconst 1, 1, mi_o), (79, .if_icmp .ne 10, 3, mi_o), (82, .aload_n 0, 1, mi_o), (83, .getfield 241, 3, 9, 43, 0, 0, 367), (86, .goto 24, 3, mi_o), (89, .iload_n 3, 1, mi_o), (90, .iconst 2, 1, mi_o)]), (108, [(91, .if_icmp .ne 13, 3, mi_o), (94, .aload_n 0, 1, mi_o), (95, .getfield 22, 3, 9, 4, 0, 0, 328), (98, .bipush 18, 2, mi_o), (100, .iaload, 1, mi_o), (101, .goto 9, 3, mi_o), (104, .aload_n 0, 1, mi_o), (105, .getfield 22, 3, 9, 4, 0, 0, 328)]), (121, [(108, .iload_n 2, 1, mi_o), (109, .iaload, 1, mi_o), (110, .istore 5, 2, mi_o), (112, .aload_n 0, 1, mi_o), (113, .aload_n 0, 1, mi_o), (114, .getfield 86, 3, 9, 38, 0, 0, 362), (117, .iconst 0, 1, mi_o), (118, .invokevirtual 273, 3, 169, 0, 9, 0, 423)]), (100000, [(121, .iload 5, 2, mi_o), (123, .ireturn, 1, mi_o)])]
noncomputable def mi_c175 : List (Nat × mi_I) := ft_flat ft_175
noncomputable def ft_176 : List (Nat × List (Nat × mi_I)) := [(13, [(0, .iload_n 1, 1, mi_o), (1, .invokestatic 127, 3, 133, 0, 9, 0, 382), (4, .ifCond .eq 16, 3, mi_o), (7, .iload_n 2, 1, mi_o), (8, .ifCond .lt 12, 3, mi_o), (11, .iload_n 3, 1, mi_o), (12, .iconst 0, 1, mi_o)]), (24, [(13, .iconst 2, 1, mi_o), (14, .invokestatic 119, 3, 131, 0, 9, 0, 379), (17, .ifCond .ne 5, 3, mi_o), (20, .iconst (-1), 1, mi_o), (21, .ireturn, 1, mi_o), (22, .aload_n 0, 1, mi_o), (23, .iload_n 1, 1, mi_o)]), (38, [(24, .invokevirtual 276, 3, 173, 0, 9, 0, 410), (27, .istore 4, 2, mi_o), (29, .iload 4, 2, mi_o), (31, .ifCond .ge 6, 3, mi_o), (34, .iload 4, 2, mi_o), (36, .ireturn, 1, mi_o), (37, .aload_n 0, 1, mi_o)]), (52, [(38, .iload_n 1, 1, mi_o), (39, .invokevirtual 279, 3, 174, 0, 9, 0, 411), (42, .iload_n 2, 1, mi_o), (43, .aload_n 0, 1, mi_o), (44, .getfield 257, 3, 9, 45, 0, 0, 369), (47, .if_icmp .lt 6, 3, mi_o), (50, .bipush (-2), 2, mi_o)]), (63, [(52, .ireturn, 1, mi_o), (53, .aload_n 0, 1, mi_o), (54, .invokevirtual 267, 3, 171, 0, 9, 0, 412), (57, .aload_n 0, 1, mi_o), (58, .invokevirtual 270, 3, 170, 0, 9, 0, 414), (61, .aload_n 0, 1, mi_o), (62, .aload_n 0, 1, mi_o)]), (78, [(63, .getfield 86, 3, 9, 38, 0, 0, 362), (66, .iconst 0, 1, mi_o), (67, .invokevirtual 273, 3, 169, 0, 9, 0, 423), (70, .iload_n 3, 1, mi_o), (71, .ifCond .ne 12, 3, mi_o), (74, .aload_n 0, 1, mi_o), (75, .getfield 98, 3, 9, 47, 0, 0, 371)]), (89, [(78, .iload_n 2, 1, mi_o), (79, .iaload, 1, mi_o), (80, .goto 23, 3, mi_o), (83, .iload_n 3, 1, mi_o), (84, .iconst 1, 1, mi_o), (85, .if_icmp .ne 12, 3, mi_o), (88, .aload_n 0, 1, mi_o)]), (102, [(89, .getfield 101, 3, 9, 48, 0, 0, 372), (92, .iload_n 2, 1, mi_o), (93, .iaload, 1, mi_o), (94, .goto 9, 3, mi_o), (97, .aload_n 0, 1, mi_o), (98, .getfield 104, 3, 9, 49, 0, 0, 373), (101, .iload_n 2, 1, mi_o)]), (100000, [(102, .iaload, 1, mi_o), (103, .ireturn, 1, mi_o)])]
noncomputable def mi_c176 : List (Nat × mi_I) := ft_flat ft_176
noncomputable def ft_177 : List (Nat × List (Nat × mi_I)) := [(14, [(0, .iload_n 1, 1, mi_o), (1, .invokestatic 127, 3, 133, 0, 9, 0, 382), (4, .ifCond .eq 26, 3, mi_o), (7, .iload_n 2, 1, mi_o), (8, .iconst 0, 1, mi_o), (9, .bipush 20, 2, mi_o), (11, .invokestatic 119, 3, 131, 0, 9, 0, 379)]), (27, [(14, .ifCond .eq 16, 3, mi_o), (17, .iload_n 3, 1, mi_o), (18, .iconst (-1), 1, mi_o), (19, .if_icmp .eq 13, 3, mi_o), (22, .aload_n 0, 1, mi_o), (23, .iload_n 3, 1, mi_o), (24, .invokevirtual 137, 3, 132, 0, 9, 0, 387)]), (39, [(27, .ifCond .ne 5, 3, mi_o), (30, .iconst (-1), 1, mi_o), (31, .ireturn, 1, mi_o), (32, .aload_n 0, 1, mi_o), (33, .iload_n 1, 1, mi_o), (34, .invokevirtual 276, 3, 173, 0, 9, 0, 410), (37, .istore 4, 2, mi_o)]), (52, [(39, .iload 4, 2, mi_o), (41, .ifCond .ge 6, 3, mi_o), (44, .iload 4, 2, mi_o), (46, .ireturn, 1, mi_o), (47, .aload_n 0, 1, mi_o), (48, .iload_n 1, 1, mi_o), (49, .invokevirtual 279, 3, 174, 0, 9, 0, 411)]), (65, [(52, .aload_n 0, 1, mi_o), (53, .invokevirtual 267, 3, 171, 0, 9, 0, 412), (56, .iconst 0, 1, mi_o), (57, .istore 5, 2, mi_o), (59, .iload 5, 2, mi_o), (61, .iload_n 2, 1, mi_o), (62, .if_icmp .ge 22, 3, mi_o)]), (81, [(65, .iload 5, 2, mi_o), (67, .ifCond .le 7, 3, mi_o), (70, .aload_n 0, 1, mi_o), (71, .invokevirtual 282, 3, 167, 0, 9, 0, 426), (74, .aload_n 0, 1, mi_o), (75, .invokevirtual 270, 3, 170, 0, 9, 0, 414), (78, .iinc 5 1, 3, mi_o)]), (96, [(81, .goto (-22), 3, mi_o), (84, .iload_n 3, 1, mi_o), (85, .iconst (-1), 1, mi_o), (86, .if_icmp .ne 10, 3, mi_o), (89, .aload_n 0, 1, mi_o), (90, .getfield 241, 3, 9, 43, 0, 0, 367), (93, .goto 9, 3, mi_o)]), (106, [(96, .aload_n 0, 1, mi_o), (97, .getfield 22, 3, 9, 4, 0, 0, 328), (100, .iload_n 3, 1, mi_o), (101, .iaload, 1, mi_o), (102, .istore 5, 2, mi_o), (104, .aload_n 0, 1, mi_o), (105, .aload_n 0, 1, mi_o)]), (100000, [(106, .getfield 86, 3, 9, 38, 0, 0, 362), (109, .iconst 0, 1, mi_o), (110, .invokevirtual 273, 3, 169, 0, 9, 0, 423), (113, .iload 5, 2, mi_o), (115, .ireturn, 1, mi_o)])]
noncomputable def mi_c177 : List (Nat × mi_I) := ft_flat ft_177
noncomputable def ft_178 : List (Nat × List (Nat × mi_I)) := [(7, [(0, .aload_n 0, 1, mi_o), (1, .getfield 257, 3, 9, 45, 0, 0, 369), (4, .istore_n 3, 1, mi_o), (5, .iload_n 3, 1, mi_o), (6, .iload_n 1, 1, mi_o)]), (16, [(7, .if_icmp .le 23, 3, mi_o), (10, .aload_n 0, 1, mi_o), (11, .getfield 95, 3, 9, 46, 0, 0, 370), (14, .iload_n 3, 1, mi_o), (15, .aload_n 0, 1, mi_o)]), (23, [(16, .getfield 95, 3, 9, 46, 0, 0, 370), (19, .iload_n 3, 1, mi_o), (20, .iconst 1, 1, mi_o), (21, .isub, 1, mi_o), (22, .iaload, 1, mi_o)]), (34, [(23, .iastore, 1, mi_o), (24, .iinc 3 (-1), 3, mi_o), (27, .goto (-22), 3, mi_o), (30, .aload_n 0, 1, mi_o), (31, .getfield 95, 3, 9, 46, 0, 0, 370)]), (39, [(34, .iload_n 1, 1, mi_o), (35, .iload_n 2, 1, mi_o), (36, .iastore, 1, mi_o), (37, .aload_n 0, 1, mi_o), (38, .dup, 1, mi_o)]), (100000, [(39, .getfield 257, 3, 9, 45, 0, 0, 369), (42, .iconst 1, 1, mi_o), (43, .iadd, 1, mi_o), (44, .putfield 257, 3, 9, 45, 0, 0, 369), (47, .return_, 1, mi_o)])]
noncomputable def mi_c178 : List (Nat × mi_I) := ft_flat ft_178
noncomputable def ft_179 : List (Nat × List (Nat × mi_I)) := [(7, [(0, .aload_n 0, 1, mi_o), (1, .dup, 1, mi_o), (2, .getfield 257, 3, 9, 45, 0, 0, 369), (5, .iconst 1, 1, mi_o), (6, .isub, 1, mi_o)]), (14, [(7, .putfield 257, 3, 9, 45, 0, 0, 369), (10, .iload_n 1, 1, mi_o), (11, .istore_n 2, 1, mi_o), (12, .iload_n 2, 1, mi_o), (13, .aload_n 0, 1, mi_o)]), (25, [(14, .getfield 257, 3, 9, 45, 0, 0, 369), (17, .if_icmp .ge 23, 3, mi_o), (20, .aload_n 0, 1, mi_o), (21, .getfield 95, 3, 9, 46, 0, 0, 370), (24, .iload_n 2, 1, mi_o)]), (32, [(25, .aload_n 0, 1, mi_o), (26, .getfield 95, 3, 9, 46, 0, 0, 370), (29, .iload_n 2, 1, mi_o), (30, .iconst 1, 1, mi_o), (31, .iadd, 1, mi_o)]), (100000, [(32, .iaload, 1, mi_o), (33, .iastore, 1, mi_o), (34, .iinc 2 1, 3, mi_o), (37, .goto (-25), 3, mi_o), (40, .return_, 1, mi_o)])]
noncomputable def mi_c179 : List (Nat × mi_I) := ft_flat ft_179
noncomputable def ft_180 : List (Nat × List (Nat × mi_I)) := [(16, [(0, .iload_n 1, 1, mi_o), (1, .invokestatic 127, 3, 133, 0, 9, 0, 382), (4, .ifCond .eq 20, 3, mi_o), (7, .aload_n 0, 1, mi_o), (8, .iload_n 2, 1, mi_o), (9, .invokevirtual 137, 3, 132, 0, 9, 0, 387), (12, .ifCond .eq 12, 3, mi_o), (15, .iload_n 3, 1, mi_o)]), (28, [(16, .iconst 0, 1, mi_o), (17, .iconst 1, 1, mi_o), (18, .invokestatic 119, 3, 131, 0, 9, 0, 379), (21, .ifCond .ne 5, 3, mi_o), (24, .iconst (-1), 1, mi_o), (25, .ireturn, 1, mi_o), (26, .aload_n 0, 1, mi_o), (27, .iload_n 1, 1, mi_o)]), (43, [(28, .invokevirtual 276, 3, 173, 0, 9, 0, 410), (31, .istore 4, 2, mi_o), (33, .iload 4, 2, mi_o), (35, .ifCond .ge 6, 3, mi_o), (38, .iload 4, 2, mi_o), (40, .ireturn, 1, mi_o), (41, .aload_n 0, 1, mi_o), (42, .iload_n 1, 1, mi_o)]), (59, [(43, .invokevirtual 279, 3, 174, 0, 9, 0, 411), (46, .aload_n 0, 1, mi_o), (47, .getfield 257, 3, 9, 45, 0, 0, 369), (50, .bipush 20, 2, mi_o), (52, .if_icmp .ne 6, 3, mi_o), (55, .bipush (-5), 2, mi_o), (57, .ireturn, 1, mi_o), (58, .iconst 0, 1, mi_o)]), (73, [(59, .istore 5, 2, mi_o), (61, .iconst (-1), 1, mi_o), (62, .istore 6, 2, mi_o), (64, .aload_n 0, 1, mi_o), (65, .getfield 257, 3, 9, 45, 0, 0, 369), (68, .istore 7, 2, mi_o), (70, .iconst 0, 1, mi_o), (71, .istore 8, 2, mi_o)]), (88, [(73, .iload 8, 2, mi_o), (75, .iload 7, 2, mi_o), (77, .if_icmp .gt 47, 3, mi_o), (80, .aload_n 0, 1, mi_o), (81, .iload 8, 2, mi_o), (83, .iload_n 2, 1, mi_o), (84, .invokevirtual 284, 3, 178, 0, 9, 0, 428), (87, .aload_n 0, 1, mi_o)]), (104, [(88, .iload_n 2, 1, mi_o), (89, .invokevirtual 288, 3, 172, 0, 9, 0, 429), (92, .istore 9, 2, mi_o), (94, .aload_n 0, 1, mi_o), (95, .iload 8, 2, mi_o), (97, .invokevirtual 291, 3, 179, 0, 9, 0, 430), (100, .iload 9, 2, mi_o), (102, .iload 6, 2, mi_o)]), (124, [(104, .if_icmp .gt 6, 3, mi_o), (107, .goto 11, 3, mi_o), (110, .iload 9, 2, mi_o), (112, .istore 6, 2, mi_o), (114, .iload 8, 2, mi_o), (116, .istore 5, 2, mi_o), (118, .iinc 8 1, 3, mi_o), (121, .goto (-48), 3, mi_o)]), (100000, [(124, .iload_n 3, 1, mi_o), (125, .ifCond .ne 8, 3, mi_o), (128, .iload 5, 2, mi_o), (130, .goto 5, 3, mi_o), (133, .iload 6, 2, mi_o), (135, .ireturn, 1, mi_o)])]
noncomputable def mi_c180 : List (Nat × mi_I) := ft_flat ft_180
noncomputable def ft_181 : List (Nat × List (Nat × mi_I)) := [(16, [(0, .iload_n 1, 1, mi_o), (1, .invokestatic 127, 3, 133, 0, 9, 0, 382), (4, .ifCond .eq 25, 3, mi_o), (7, .iload_n 2, 1, mi_o), (8, .ifCond .lt 21, 3, mi_o), (11, .aload_n 0, 1, mi_o), (12, .iload_n 3, 1, mi_o), (13, .invokevirtual 137, 3, 132, 0, 9, 0, 387)]), (31, [(16, .ifCond .eq 13, 3, mi_o), (19, .iload 4, 2, mi_o), (21, .iconst 0, 1, mi_o), (22, .iconst 1, 1, mi_o), (23, .invokestatic 119, 3, 131, 0, 9, 0, 379), (26, .ifCond .ne 5, 3, mi_o), (29, .iconst (-1), 1, mi_o), (30, .ireturn, 1, mi_o)]), (46, [(31, .aload_n 0, 1, mi_o), (32, .iload_n 1, 1, mi_o), (33, .invokevirtual 276, 3, 173, 0, 9, 0, 410), (36, .istore 5, 2, mi_o), (38, .iload 5, 2, mi_o), (40, .ifCond .ge 6, 3, mi_o), (43, .iload 5, 2, mi_o), (45, .ireturn, 1, mi_o)]), (60, [(46, .aload_n 0, 1, mi_o), (47, .iload_n 1, 1, mi_o), (48, .invokevirtual 279, 3, 174, 0, 9, 0, 411), (51, .iload_n 2, 1, mi_o), (52, .aload_n 0, 1, mi_o), (53, .getfield 257, 3, 9, 45, 0, 0, 369), (56, .if_icmp .le 5, 3, mi_o), (59, .iconst (-1), 1, mi_o)]), (74, [(60, .ireturn, 1, mi_o), (61, .aload_n 0, 1, mi_o), (62, .getfield 257, 3, 9, 45, 0, 0, 369), (65, .bipush 20, 2, mi_o), (67, .if_icmp .ne 6, 3, mi_o), (70, .bipush (-5), 2, mi_o), (72, .ireturn, 1, mi_o), (73, .iconst 0, 1, mi_o)]), (88, [(74, .istore 6, 2, mi_o), (76, .iconst (-1), 1, mi_o), (77, .istore 7, 2, mi_o), (79, .iconst 0, 1, mi_o), (80, .istore 8, 2, mi_o), (82, .iload 8, 2, mi_o), (84, .aload_n 0, 1, mi_o), (85, .getfield 116, 3, 9, 0, 0, 0, 324)]), (103, [(88, .if_icmp .ge 46, 3, mi_o), (91, .aload_n 0, 1, mi_o), (92, .iload_n 2, 1, mi_o), (93, .iload 8, 2, mi_o), (95, .invokevirtual 284, 3, 178, 0, 9, 0, 428), (98, .aload_n 0, 1, mi_o), (99, .iload_n 3, 1, mi_o), (100, .invokevirtual 288, 3, 172, 0, 9, 0, 429)]), (120, [(103, .istore 9, 2, mi_o), (105, .aload_n 0, 1, mi_o), (106, .iload_n 2, 1, mi_o), (107, .invokevirtual 291, 3, 179, 0, 9, 0, 430), (110, .iload 9, 2, mi_o), (112, .iload 7, 2, mi_o), (114, .if_icmp .gt 6, 3, mi_o), (117, .goto 11, 3, mi_o)]), (139, [(120, .iload 9, 2, mi_o), (122, .istore 7, 2, mi_o), (124, .iload 8, 2, mi_o), (126, .istore 6, 2, mi_o), (128, .iinc 8 1, 3, mi_o), (131, .goto (-49), 3, mi_o), (134, .iload 4, 2, mi_o), (136, .ifCond .ne 8, 3, mi_o)]), (100000, [(139, .iload 6, 2, mi_o), (141, .goto 5, 3, mi_o), (144, .iload 7, 2, mi_o), (146, .ireturn, 1, mi_o)])]
noncomputable def mi_c181 : List (Nat × mi_I) := ft_flat ft_181
noncomputable def ft_182 : List (Nat × List (Nat × mi_I)) := [(6, [(0, .aload_n 0, 1, mi_o), (1, .getfield 95, 3, 9, 46, 0, 0, 370), (4, .iload_n 1, 1, mi_o), (5, .iaload, 1, mi_o)]), (12, [(6, .istore_n 2, 1, mi_o), (7, .aload_n 0, 1, mi_o), (8, .getfield 95, 3, 9, 46, 0, 0, 370), (11, .iload_n 1, 1, mi_o)]), (18, [(12, .aload_n 0, 1, mi_o), (13, .getfield 95, 3, 9, 46, 0, 0, 370), (16, .iload_n 1, 1, mi_o), (17, .iconst 1, 1, mi_o)]), (22, [(18, .iadd, 1, mi_o), (19, .iaload, 1, mi_o), (20, .iastore, 1, mi_o), (21, .aload_n 0, 1, mi_o)]), (28, [(22, .getfield 95, 3, 9, 46, 0, 0, 370), (25, .iload_n 1, 1, mi_o), (26, .iconst 1, 1, mi_o), (27, .iadd, 1, mi_o)]), (100000, [(28, .iload_n 2, 1, mi_o), (29, .iastore, 1, mi_o), (30, .return_, 1, mi_o)])]
noncomputable def mi_c182 : List (Nat × mi_I) := ft_flat ft_182
noncomputable def ft_183 : List (Nat × List (Nat × mi_I)) := [(16, [(0, .iload_n 1, 1, mi_o), (1, .invokestatic 127, 3, 133, 0, 9, 0, 382), (4, .ifCond .eq 20, 3, mi_o), (7, .aload_n 0, 1, mi_o), (8, .iload_n 2, 1, mi_o), (9, .invokevirtual 137, 3, 132, 0, 9, 0, 387), (12, .ifCond .eq 12, 3, mi_o), (15, .iload_n 3, 1, mi_o)]), (28, [(16, .iconst 0, 1, mi_o), (17, .iconst 1, 1, mi_o), (18, .invokestatic 119, 3, 131, 0, 9, 0, 379), (21, .ifCond .ne 5, 3, mi_o), (24, .iconst (-1), 1, mi_o), (25, .ireturn, 1, mi_o), (26, .aload_n 0, 1, mi_o), (27, .iload_n 1, 1, mi_o)]), (43, [(28, .invokevirtual 276, 3, 173, 0, 9, 0, 410), (31, .istore 4, 2, mi_o), (33, .iload 4, 2, mi_o), (35, .ifCond .ge 6, 3, mi_o), (38, .iload 4, 2, mi_o), (40, .ireturn, 1, mi_o), (41, .aload_n 0, 1, mi_o), (42, .iload_n 1, 1, mi_o)]), (58, [(43, .invokevirtual 279, 3, 174, 0, 9, 0, 411), (46, .bipush (-2), 2, mi_o), (48, .istore 5, 2, mi_o), (50, .aload_n 0, 1, mi_o), (51, .iload_n 2, 1, mi_o), (52, .invokevirtual 288, 3, 172, 0, 9, 0, 429), (55, .istore 6, 2, mi_o), (57, .iconst 0, 1, mi_o)]), (72, [(58, .istore 7, 2, mi_o), (60, .iload 7, 2, mi_o), (62, .iconst 1, 1, mi_o), (63, .iadd, 1, mi_o), (64, .aload_n 0, 1, mi_o), (65, .getfield 257, 3, 9, 45, 0, 0, 369), (68, .if_icmp .ge 46, 3, mi_o), (71, .aload_n 0, 1, mi_o)]), (87, [(72, .iload 7, 2, mi_o), (74, .invokevirtual 294, 3, 182, 0, 9, 0, 433), (77, .aload_n 0, 1, mi_o), (78, .iload_n 2, 1, mi_o), (79, .invokevirtual 288, 3, 172, 0, 9, 0, 429), (82, .istore 8, 2, mi_o), (84, .aload_n 0, 1, mi_o), (85, .iload 7, 2, mi_o)]), (106, [(87, .invokevirtual 294, 3, 182, 0, 9, 0, 433), (90, .iload 8, 2, mi_o), (92, .iload 6, 2, mi_o), (94, .if_icmp .gt 6, 3, mi_o), (97, .goto 11, 3, mi_o), (100, .iload 8, 2, mi_o), (102, .istore 6, 2, mi_o), (104, .iload 7, 2, mi_o)]), (125, [(106, .istore 5, 2, mi_o), (108, .iinc 7 1, 3, mi_o), (111, .goto (-51), 3, mi_o), (114, .iload_n 3, 1, mi_o), (115, .ifCond .ne 8, 3, mi_o), (118, .iload 5, 2, mi_o), (120, .goto 5, 3, mi_o), (123, .iload 6, 2, mi_o)]), (100000, [(125, .ireturn, 1, mi_o)])]
noncomputable def mi_c183 : List (Nat × mi_I) := ft_flat ft_183
noncomputable def ft_184 : List (Nat × List (Nat × mi_I)) := [(15, [(0, .iload_n 2, 1, mi_o), (1, .ifCond .ne 90, 3, mi_o), (4, .aload_n 0, 1, mi_o), (5, .iload_n 1, 1, mi_o), (6, .putfield 257, 3, 9, 45, 0, 0, 369), (9, .iconst 0, 1, mi_o), (10, .istore 4, 2, mi_o), (12, .iload 4, 2, mi_o), (14, .iload_n 1, 1, mi_o)]), (32, [(15, .if_icmp .ge 23, 3, mi_o), (18, .aload_n 0, 1, mi_o), (19, .getfield 95, 3, 9, 46, 0, 0, 370), (22, .iload 4, 2, mi_o), (24, .aload_n 0, 1, mi_o), (25, .getfield 107, 3, 9, 50, 0, 0, 374), (28, .iload 4, 2, mi_o), (30, .iaload, 1, mi_o), (31, .iastore, 1, mi_o)]), (51, [(32, .iinc 4 1, 3, mi_o), (35, .goto (-23), 3, mi_o), (38, .aload_n 0, 1, mi_o), (39, .iload_n 3, 1, mi_o), (40, .invokevirtual 288, 3, 172, 0, 9, 0, 429), (43, .istore 4, 2, mi_o), (45, .iload 4, 2, mi_o), (47, .aload_n 0, 1, mi_o), (48, .getfield 297, 3, 9, 52, 0, 0, 376)]), (67, [(51, .if_icmp .gt 4, 3, mi_o), (54, .return_, 1, mi_o), (55, .aload_n 0, 1, mi_o), (56, .iload 4, 2, mi_o), (58, .putfield 297, 3, 9, 52, 0, 0, 376), (61, .iconst 0, 1, mi_o), (62, .istore 5, 2, mi_o), (64, .iload 5, 2, mi_o), (66, .iload_n 1, 1, mi_o)]), (84, [(67, .if_icmp .ge 23, 3, mi_o), (70, .aload_n 0, 1, mi_o), (71, .getfield 110, 3, 9, 51, 0, 0, 375), (74, .iload 5, 2, mi_o), (76, .aload_n 0, 1, mi_o), (77, .getfield 107, 3, 9, 50, 0, 0, 374), (80, .iload 5, 2, mi_o), (82, .iaload, 1, mi_o), (83, .iastore, 1, mi_o)]), (103, [(84, .iinc 5 1, 3, mi_o), (87, .goto (-23), 3, mi_o), (90, .return_, 1, mi_o), (91, .iconst 0, 1, mi_o), (92, .istore 4, 2, mi_o), (94, .iload 4, 2, mi_o), (96, .aload_n 0, 1, mi_o), (97, .getfield 116, 3, 9, 0, 0, 0, 324), (100, .if_icmp .ge 45, 3, mi_o)]), (119, [(103, .iload_n 2, 1, mi_o), (104, .iload 4, 2, mi_o), (106, .ishr, 1, mi_o), (107, .iconst 1, 1, mi_o), (108, .iand, 1, mi_o), (109, .ifCond .ne 6, 3, mi_o), (112, .goto 27, 3, mi_o), (115, .aload_n 0, 1, mi_o), (116, .getfield 107, 3, 9, 50, 0, 0, 374)]), (129, [(119, .iload_n 1, 1, mi_o), (120, .iload 4, 2, mi_o), (122, .iastore, 1, mi_o), (123, .aload_n 0, 1, mi_o), (124, .iload_n 1, 1, mi_o), (125, .iconst 1, 1, mi_o), (126, .iadd, 1, mi_o), (127, .iload_n 2, 1, mi_o), (128, .iconst 1, 1, mi_o)]), (145, [(129, .iload 4, 2, mi_o), (131, .ishl, 1, mi_o), (132, .iconst (-1), 1, mi_o), (133, .ixor, 1, mi_o), (134, .iand, 1, mi_o), (135, .iload_n 3, 1, mi_o), (136, .invokevirtual 300, 3, 184, 0, 9, 0, 436), (139, .iinc 4 1, 3, mi_o), (142, .goto (-48), 3, mi_o)]), (100000, [(145, .return_, 1, mi_o)])]
noncomputable def mi_c184 : List (Nat × mi_I) := ft_flat ft_184
noncomputable def ft_185 : List (Nat × List (Nat × mi_I)) := [(9, [(0, .iload_n 1, 1, mi_o), (1, .iconst 0, 1, mi_o), (2, .iconst 1, 1, mi_o), (3, .aload_n 0, 1, mi_o), (4, .getfield 116, 3, 9, 0, 0, 0, 324), (7, .ishl, 1, mi_o), (8, .iconst 1, 1, mi_o)]), (24, [(9, .isub, 1, mi_o), (10, .invokestatic 119, 3, 131, 0, 9, 0, 379), (13, .ifCond .eq 16, 3, mi_o), (16, .aload_n 0, 1, mi_o), (17, .iload_n 2, 1, mi_o), (18, .invokevirtual 137, 3, 132, 0, 9, 0, 387), (21, .ifCond .eq 8, 3, mi_o)]), (35, [(24, .iload_n 3, 1, mi_o), (25, .iconst (-1), 1, mi_o), (26, .if_icmp .ge 5, 3, mi_o), (29, .iconst (-1), 1, mi_o), (30, .ireturn, 1, mi_o), (31, .iload_n 1, 1, mi_o), (32, .invokestatic 303, 3, 226, 0, 9, 0, 435)]), (47, [(35, .iconst 5, 1, mi_o), (36, .if_icmp .le 6, 3, mi_o), (39, .bipush (-5), 2, mi_o), (41, .ireturn, 1, mi_o), (42, .iload_n 3, 1, mi_o), (43, .iload_n 1, 1, mi_o), (44, .invokestatic 303, 3, 226, 0, 9, 0, 435)]), (59, [(47, .if_icmp .lt 6, 3, mi_o), (50, .bipush (-2), 2, mi_o), (52, .ireturn, 1, mi_o), (53, .aload_n 0, 1, mi_o), (54, .iconst (-1), 1, mi_o), (55, .putfield 297, 3, 9, 52, 0, 0, 376), (58, .aload_n 0, 1, mi_o)]), (70, [(59, .iconst 0, 1, mi_o), (60, .iload_n 1, 1, mi_o), (61, .iload_n 2, 1, mi_o), (62, .invokevirtual 300, 3, 184, 0, 9, 0, 436), (65, .iload_n 3, 1, mi_o), (66, .iconst (-1), 1, mi_o), (67, .if_icmp .ne 10, 3, mi_o)]), (83, [(70, .aload_n 0, 1, mi_o), (71, .getfield 297, 3, 9, 52, 0, 0, 376), (74, .goto 9, 3, mi_o), (77, .aload_n 0, 1, mi_o), (78, .getfield 110, 3, 9, 51, 0, 0, 375), (81, .iload_n 3, 1, mi_o), (82, .iaload, 1, mi_o)]), (100000, [(83, .ireturn, 1, mi_o)])]
noncomputable def mi_c185 : List (Nat × mi_I) := ft_flat ft_185
noncomputable def ft_186 : List (Nat × List (Nat × mi_I)) := [(8, [(0, .iload_n 1, 1, mi_o), (1, .ifCond .lt 40, 3, mi_o), (4, .aload_n 0, 1, mi_o), (5, .iload_n 1, 1, mi_o), (6, .bipush 10, 2, mi_o)]), (17, [(8, .idiv, 1, mi_o), (9, .invokevirtual 137, 3, 132, 0, 9, 0, 387), (12, .ifCond .eq 29, 3, mi_o), (15, .aload_n 0, 1, mi_o), (16, .iload_n 1, 1, mi_o)]), (27, [(17, .bipush 10, 2, mi_o), (19, .irem, 1, mi_o), (20, .invokevirtual 137, 3, 132, 0, 9, 0, 387), (23, .ifCond .eq 18, 3, mi_o), (26, .iload_n 1, 1, mi_o)]), (34, [(27, .bipush 10, 2, mi_o), (29, .idiv, 1, mi_o), (30, .iload_n 1, 1, mi_o), (31, .bipush 10, 2, mi_o), (33, .irem, 1, mi_o)]), (100000, [(34, .if_icmp .eq 7, 3, mi_o), (37, .iconst 1, 1, mi_o), (38, .goto 4, 3, mi_o), (41, .iconst 0, 1, mi_o), (42, .ireturn, 1, mi_o)])]
noncomputable def mi_c186 : List (Nat × mi_I) := ft_flat ft_186
noncomputable def ft_187 : List (Nat × List (Nat × mi_I)) := [(12, [(0, .iload_n 1, 1, mi_o), (1, .invokestatic 127, 3, 133, 0, 9, 0, 382), (4, .ifCond .eq 11, 3, mi_o), (7, .aload_n 0, 1, mi_o), (8, .iload_n 2, 1, mi_o), (9, .invokevirtual 308, 3, 186, 0, 9, 0, 438)]), (22, [(12, .ifCond .ne 5, 3, mi_o), (15, .iconst (-1), 1, mi_o), (16, .ireturn, 1, mi_o), (17, .aload_n 0, 1, mi_o), (18, .iload_n 1, 1, mi_o), (19, .invokevirtual 276, 3, 173, 0, 9, 0, 410)]), (30, [(22, .istore_n 3, 1, mi_o), (23, .iload_n 3, 1, mi_o), (24, .ifCond .ge 5, 3, mi_o), (27, .iload_n 3, 1, mi_o), (28, .ireturn, 1, mi_o), (29, .aload_n 0, 1, mi_o)]), (40, [(30, .iload_n 1, 1, mi_o), (31, .invokevirtual 279, 3, 174, 0, 9, 0, 411), (34, .aload_n 0, 1, mi_o), (35, .iconst 0, 1, mi_o), (36, .invokevirtual 288, 3, 172, 0, 9, 0, 429), (39, .pop, 1, mi_o)]), (50, [(40, .aload_n 0, 1, mi_o), (41, .getfield 92, 3, 9, 44, 0, 0, 368), (44, .bipush 8, 2, mi_o), (46, .iload_n 2, 1, mi_o), (47, .bipush 10, 2, mi_o), (49, .idiv, 1, mi_o)]), (57, [(50, .imul, 1, mi_o), (51, .iload_n 2, 1, mi_o), (52, .bipush 10, 2, mi_o), (54, .irem, 1, mi_o), (55, .iadd, 1, mi_o), (56, .iaload, 1, mi_o)]), (100000, [(57, .ireturn, 1, mi_o)])]
noncomputable def mi_c187 : List (Nat × mi_I) := ft_flat ft_187
noncomputable def ft_188 : List (Nat × List (Nat × mi_I)) := [(14, [(0, .iconst 0, 1, mi_o), (1, .istore_n 1, 1, mi_o), (2, .iload_n 1, 1, mi_o), (3, .bipush 64, 2, mi_o), (5, .if_icmp .ge 30, 3, mi_o), (8, .aload_n 0, 1, mi_o), (9, .getfield 113, 3, 9, 53, 0, 0, 377), (12, .iload_n 1, 1, mi_o), (13, .aload_n 0, 1, mi_o)]), (32, [(14, .getfield 92, 3, 9, 44, 0, 0, 368), (17, .iload_n 1, 1, mi_o), (18, .iaload, 1, mi_o), (19, .ifCond .le 7, 3, mi_o), (22, .iconst 1, 1, mi_o), (23, .goto 5, 3, mi_o), (26, .bipush 99, 2, mi_o), (28, .iastore, 1, mi_o), (29, .iinc 1 1, 3, mi_o)]), (46, [(32, .goto (-30), 3, mi_o), (35, .iconst 0, 1, mi_o), (36, .istore_n 1, 1, mi_o), (37, .iload_n 1, 1, mi_o), (38, .bipush 8, 2, mi_o), (40, .if_icmp .ge 66, 3, mi_o), (43, .iconst 0, 1, mi_o), (44, .istore_n 2, 1, mi_o), (45, .iload_n 2, 1, mi_o)]), (62, [(46, .bipush 64, 2, mi_o), (48, .if_icmp .ge 52, 3, mi_o), (51, .aload_n 0, 1, mi_o), (52, .getfield 113, 3, 9, 53, 0, 0, 377), (55, .iload_n 2, 1, mi_o), (56, .aload_n 0, 1, mi_o), (57, .getfield 113, 3, 9, 53, 0, 0, 377), (60, .iload_n 2, 1, mi_o), (61, .iaload, 1, mi_o)]), (74, [(62, .aload_n 0, 1, mi_o), (63, .getfield 113, 3, 9, 53, 0, 0, 377), (66, .iload_n 2, 1, mi_o), (67, .iload_n 2, 1, mi_o), (68, .bipush 8, 2, mi_o), (70, .irem, 1, mi_o), (71, .isub, 1, mi_o), (72, .iload_n 1, 1, mi_o), (73, .iadd, 1, mi_o)]), (87, [(74, .iaload, 1, mi_o), (75, .aload_n 0, 1, mi_o), (76, .getfield 113, 3, 9, 53, 0, 0, 377), (79, .bipush 8, 2, mi_o), (81, .iload_n 1, 1, mi_o), (82, .imul, 1, mi_o), (83, .iload_n 2, 1, mi_o), (84, .bipush 8, 2, mi_o), (86, .irem, 1, mi_o)]), (106, [(87, .iadd, 1, mi_o), (88, .iaload, 1, mi_o), (89, .iadd, 1, mi_o), (90, .invokestatic 230, 3, 0, 0, 15, 0, 417), (93, .iastore, 1, mi_o), (94, .iinc 2 1, 3, mi_o), (97, .goto (-52), 3, mi_o), (100, .iinc 1 1, 3, mi_o), (103, .goto (-66), 3, mi_o)]), (119, [(106, .bipush 99, 2, mi_o), (108, .istore_n 1, 1, mi_o), (109, .iconst 0, 1, mi_o), (110, .istore_n 2, 1, mi_o), (111, .iload_n 2, 1, mi_o), (112, .bipush 8, 2, mi_o), (114, .if_icmp .ge 23, 3, mi_o), (117, .iload_n 1, 1, mi_o), (118, .aload_n 0, 1, mi_o)]), (137, [(119, .getfield 113, 3, 9, 53, 0, 0, 377), (122, .bipush 9, 2, mi_o), (124, .iload_n 2, 1, mi_o), (125, .imul, 1, mi_o), (126, .iaload, 1, mi_o), (127, .invokestatic 230, 3, 0, 0, 15, 0, 417), (130, .istore_n 1, 1, mi_o), (131, .iinc 2 1, 3, mi_o), (134, .goto (-23), 3, mi_o)]), (100000, [(137, .iload_n 1, 1, mi_o), (138, .bipush 99, 2, mi_o), (140, .if_icmp .ne 8, 3, mi_o), (143, .bipush (-2), 2, mi_o), (145, .goto 4, 3, mi_o), (148, .iload_n 1, 1, mi_o), (149, .ireturn, 1, mi_o)])]
noncomputable def mi_c188 : List (Nat × mi_I) := ft_flat ft_188
noncomputable def ft_189 : List (Nat × List (Nat × mi_I)) := [(16, [(0, .iload_n 1, 1, mi_o), (1, .invokestatic 127, 3, 133, 0, 9, 0, 382), (4, .ifCond .eq 12, 3, mi_o), (7, .iload_n 2, 1, mi_o), (8, .iconst 0, 1, mi_o), (9, .iconst 1, 1, mi_o), (10, .invokestatic 119, 3, 131, 0, 9, 0, 379), (13, .ifCond .ne 5, 3, mi_o)]), (28, [(16, .iconst (-1), 1, mi_o), (17, .ireturn, 1, mi_o), (18, .aload_n 0, 1, mi_o), (19, .iload_n 1, 1, mi_o), (20, .invokevirtual 276, 3, 173, 0, 9, 0, 410), (23, .istore_n 3, 1, mi_o), (24, .iload_n 3, 1, mi_o), (25, .ifCond .ge 5, 3, mi_o)]), (41, [(28, .iload_n 3, 1, mi_o), (29, .ireturn, 1, mi_o), (30, .aload_n 0, 1, mi_o), (31, .getfield 116, 3, 9, 0, 0, 0, 324), (34, .ifCond .ne 6, 3, mi_o), (37, .bipush (-2), 2, mi_o), (39, .ireturn, 1, mi_o), (40, .aload_n 0, 1, mi_o)]), (56, [(41, .iload_n 1, 1, mi_o), (42, .invokevirtual 279, 3, 174, 0, 9, 0, 411), (45, .aload_n 0, 1, mi_o), (46, .invokevirtual 267, 3, 171, 0, 9, 0, 412), (49, .aload_n 0, 1, mi_o), (50, .invokevirtual 270, 3, 170, 0, 9, 0, 414), (53, .iconst 0, 1, mi_o), (54, .istore 4, 2, mi_o)]), (72, [(56, .iconst 1, 1, mi_o), (57, .istore 5, 2, mi_o), (59, .iload 5, 2, mi_o), (61, .aload_n 0, 1, mi_o), (62, .getfield 116, 3, 9, 0, 0, 0, 324), (65, .if_icmp .ge 46, 3, mi_o), (68, .aload_n 0, 1, mi_o), (69, .getfield 22, 3, 9, 4, 0, 0, 328)]), (84, [(72, .iload 5, 2, mi_o), (74, .iaload, 1, mi_o), (75, .aload_n 0, 1, mi_o), (76, .getfield 86, 3, 9, 38, 0, 0, 362), (79, .iload 5, 2, mi_o), (81, .iaload, 1, mi_o), (82, .isub, 1, mi_o), (83, .aload_n 0, 1, mi_o)]), (98, [(84, .getfield 22, 3, 9, 4, 0, 0, 328), (87, .iload 4, 2, mi_o), (89, .iaload, 1, mi_o), (90, .aload_n 0, 1, mi_o), (91, .getfield 86, 3, 9, 38, 0, 0, 362), (94, .iload 4, 2, mi_o), (96, .iaload, 1, mi_o), (97, .isub, 1, mi_o)]), (116, [(98, .if_icmp .le 7, 3, mi_o), (101, .iload 5, 2, mi_o), (103, .istore 4, 2, mi_o), (105, .iinc 5 1, 3, mi_o), (108, .goto (-49), 3, mi_o), (111, .aload_n 0, 1, mi_o), (112, .aload_n 0, 1, mi_o), (113, .getfield 86, 3, 9, 38, 0, 0, 362)]), (133, [(116, .iconst 0, 1, mi_o), (117, .invokevirtual 273, 3, 169, 0, 9, 0, 423), (120, .iload_n 2, 1, mi_o), (121, .ifCond .ne 10, 3, mi_o), (124, .aload_n 0, 1, mi_o), (125, .invokevirtual 311, 3, 188, 0, 9, 0, 440), (128, .goto 5, 3, mi_o), (131, .iload 4, 2, mi_o)]), (100000, [(133, .ireturn, 1, mi_o)])]
noncomputable def mi_c189 : List (Nat × mi_I) := ft_flat ft_189
noncomputable def ft_190 : List (Nat × List (Nat × mi_I)) := [(7, [(0, .iload_n 1, 1, mi_o), (1, .ifCond .lt 27, 3, mi_o), (4, .iload_n 1, 1, mi_o), (5, .bipush 10, 2, mi_o)]), (15, [(7, .idiv, 1, mi_o), (8, .invokestatic 127, 3, 133, 0, 9, 0, 382), (11, .ifCond .eq 17, 3, mi_o), (14, .iload_n 1, 1, mi_o)]), (24, [(15, .bipush 10, 2, mi_o), (17, .irem, 1, mi_o), (18, .invokestatic 127, 3, 133, 0, 9, 0, 382), (21, .ifCond .eq 7, 3, mi_o)]), (100000, [(24, .iconst 1, 1, mi_o), (25, .goto 4, 3, mi_o), (28, .iconst 0, 1, mi_o), (29, .ireturn, 1, mi_o)])]
noncomputable def mi_c190 : List (Nat × mi_I) := ft_flat ft_190
noncomputable def ft_191 : List (Nat × List (Nat × mi_I)) := [(5, [(0, .aload_n 0, 1, mi_o), (1, .iload_n 1, 1, mi_o), (2, .bipush 10, 2, mi_o), (4, .idiv, 1, mi_o)]), (13, [(5, .invokevirtual 276, 3, 173, 0, 9, 0, 410), (8, .istore_n 2, 1, mi_o), (9, .iload_n 2, 1, mi_o), (10, .ifCond .ge 7, 3, mi_o)]), (19, [(13, .iload_n 2, 1, mi_o), (14, .goto 11, 3, mi_o), (17, .aload_n 0, 1, mi_o), (18, .iload_n 1, 1, mi_o)]), (100000, [(19, .bipush 10, 2, mi_o), (21, .irem, 1, mi_o), (22, .invokevirtual 276, 3, 173, 0, 9, 0, 410), (25, .ireturn, 1, mi_o)])]
noncomputable def mi_c191 : List (Nat × mi_I) := ft_flat ft_191
noncomputable def ft_192 : List (Nat × List (Nat × mi_I)) := [(10, [(0, .aload_n 0, 1, mi_o), (1, .invokevirtual 267, 3, 171, 0, 9, 0, 412), (4, .aload_n 0, 1, mi_o), (5, .invokevirtual 270, 3, 170, 0, 9, 0, 414), (8, .aload_n 0, 1, mi_o), (9, .aload_n 0, 1, mi_o)]), (20, [(10, .getfield 86, 3, 9, 38, 0, 0, 362), (13, .iconst 0, 1, mi_o), (14, .invokevirtual 273, 3, 169, 0, 9, 0, 423), (17, .iconst 0, 1, mi_o), (18, .istore_n 2, 1, mi_o), (19, .iload_n 2, 1, mi_o)]), (30, [(20, .aload_n 0, 1, mi_o), (21, .getfield 79, 3, 9, 36, 0, 0, 360), (24, .iload_n 1, 1, mi_o), (25, .iaload, 1, mi_o), (26, .if_icmp .ge 45, 3, mi_o), (29, .iload_n 2, 1, mi_o)]), (40, [(30, .aload_n 0, 1, mi_o), (31, .getfield 257, 3, 9, 45, 0, 0, 369), (34, .if_icmp .ge 29, 3, mi_o), (37, .aload_n 0, 1, mi_o), (38, .iload_n 1, 1, mi_o), (39, .iload_n 2, 1, mi_o)]), (51, [(40, .invokevirtual 133, 3, 137, 0, 9, 0, 384), (43, .bipush 9, 2, mi_o), (45, .if_icmp .eq 20, 3, mi_o), (48, .aload_n 0, 1, mi_o), (49, .iload_n 1, 1, mi_o), (50, .iload_n 2, 1, mi_o)]), (63, [(51, .invokevirtual 133, 3, 137, 0, 9, 0, 384), (54, .aload_n 0, 1, mi_o), (55, .getfield 98, 3, 9, 47, 0, 0, 371), (58, .iload_n 2, 1, mi_o), (59, .iaload, 1, mi_o), (60, .if_icmp .eq 5, 3, mi_o)]), (100000, [(63, .iload_n 2, 1, mi_o), (64, .ireturn, 1, mi_o), (65, .iinc 2 1, 3, mi_o), (68, .goto (-49), 3, mi_o), (71, .bipush (-2), 2, mi_o), (73, .ireturn, 1, mi_o)])]
noncomputable def mi_c192 : List (Nat × mi_I) := ft_flat ft_192
noncomputable def ft_193 : List (Nat × List (Nat × mi_I)) := [(9, [(0, .aload_n 0, 1, mi_o), (1, .iload_n 1, 1, mi_o), (2, .invokevirtual 314, 3, 190, 0, 9, 0, 442), (5, .ifCond .ne 5, 3, mi_o), (8, .iconst (-1), 1, mi_o)]), (16, [(9, .ireturn, 1, mi_o), (10, .aload_n 0, 1, mi_o), (11, .iload_n 1, 1, mi_o), (12, .invokevirtual 317, 3, 191, 0, 9, 0, 443), (15, .istore_n 2, 1, mi_o)]), (23, [(16, .iload_n 2, 1, mi_o), (17, .ifCond .ge 5, 3, mi_o), (20, .iload_n 2, 1, mi_o), (21, .ireturn, 1, mi_o), (22, .aload_n 0, 1, mi_o)]), (31, [(23, .iload_n 1, 1, mi_o), (24, .bipush 10, 2, mi_o), (26, .idiv, 1, mi_o), (27, .invokevirtual 279, 3, 174, 0, 9, 0, 411), (30, .aload_n 0, 1, mi_o)]), (100000, [(31, .iload_n 1, 1, mi_o), (32, .bipush 10, 2, mi_o), (34, .irem, 1, mi_o), (35, .invokevirtual 320, 3, 192, 0, 9, 0, 444), (38, .ireturn, 1, mi_o)])]
noncomputable def mi_c193 : List (Nat × mi_I) := ft_flat ft_193
noncomputable def ft_194 : List (Nat × List (Nat × mi_I)) := [(7, [(0, .aload_n 0, 1, mi_o), (1, .getfield 15, 3, 9, 2, 0, 0, 326), (4, .istore_n 2, 1, mi_o), (5, .iconst 0, 1, mi_o), (6, .istore_n 3, 1, mi_o)]), (17, [(7, .iconst 1, 1, mi_o), (8, .istore 4, 2, mi_o), (10, .iload 4, 2, mi_o), (12, .bipush 6, 2, mi_o), (14, .if_icmp .ge 32, 3, mi_o)]), (25, [(17, .aload_n 0, 1, mi_o), (18, .iload 4, 2, mi_o), (20, .putfield 15, 3, 9, 2, 0, 0, 326), (23, .aload_n 0, 1, mi_o), (24, .iload_n 1, 1, mi_o)]), (35, [(25, .invokevirtual 320, 3, 192, 0, 9, 0, 444), (28, .bipush (-2), 2, mi_o), (30, .if_icmp .ne 10, 3, mi_o), (33, .iload_n 3, 1, mi_o), (34, .iconst 1, 1, mi_o)]), (43, [(35, .iload 4, 2, mi_o), (37, .ishl, 1, mi_o), (38, .ior, 1, mi_o), (39, .istore_n 3, 1, mi_o), (40, .iinc 4 1, 3, mi_o)]), (52, [(43, .goto (-33), 3, mi_o), (46, .aload_n 0, 1, mi_o), (47, .iload_n 2, 1, mi_o), (48, .putfield 15, 3, 9, 2, 0, 0, 326), (51, .iload_n 3, 1, mi_o)]), (100000, [(52, .ireturn, 1, mi_o)])]
noncomputable def mi_c194 : List (Nat × mi_I) := ft_flat ft_194
noncomputable def ft_195 : List (Nat × List (Nat × mi_I)) := [(8, [(0, .aload_n 0, 1, mi_o), (1, .getfield 95, 3, 9, 46, 0, 0, 370), (4, .iload_n 2, 1, mi_o), (5, .iaload, 1, mi_o), (6, .istore_n 3, 1, mi_o), (7, .iconst 0, 1, mi_o)]), (19, [(8, .istore 4, 2, mi_o), (10, .iconst 0, 1, mi_o), (11, .istore 5, 2, mi_o), (13, .iload 5, 2, mi_o), (15, .aload_n 0, 1, mi_o), (16, .getfield 116, 3, 9, 0, 0, 0, 324)]), (30, [(19, .if_icmp .ge 36, 3, mi_o), (22, .aload_n 0, 1, mi_o), (23, .getfield 95, 3, 9, 46, 0, 0, 370), (26, .iload_n 2, 1, mi_o), (27, .iload 5, 2, mi_o), (29, .iastore, 1, mi_o)]), (42, [(30, .aload_n 0, 1, mi_o), (31, .iload_n 1, 1, mi_o), (32, .invokevirtual 320, 3, 192, 0, 9, 0, 444), (35, .bipush (-2), 2, mi_o), (37, .if_icmp .ne 12, 3, mi_o), (40, .iload 4, 2, mi_o)]), (52, [(42, .iconst 1, 1, mi_o), (43, .iload 5, 2, mi_o), (45, .ishl, 1, mi_o), (46, .ior, 1, mi_o), (47, .istore 4, 2, mi_o), (49, .iinc 5 1, 3, mi_o)]), (62, [(52, .goto (-39), 3, mi_o), (55, .aload_n 0, 1, mi_o), (56, .getfield 95, 3, 9, 46, 0, 0, 370), (59, .iload_n 2, 1, mi_o), (60, .iload_n 3, 1, mi_o), (61, .iastore, 1, mi_o)]), (100000, [(62, .iload 4, 2, mi_o), (64, .ireturn, 1, mi_o)])]
noncomputable def mi_c195 : List (Nat × mi_I) := ft_flat ft_195
noncomputable def ft_196 : List (Nat × List (Nat × mi_I)) := [(9, [(0, .aload_n 0, 1, mi_o), (1, .getfield 9, 3, 9, 1, 0, 0, 325), (4, .iload_n 2, 1, mi_o), (5, .iaload, 1, mi_o), (6, .istore 4, 2, mi_o), (8, .iconst 0, 1, mi_o)]), (21, [(9, .istore 5, 2, mi_o), (11, .bipush (-2), 2, mi_o), (13, .istore 6, 2, mi_o), (15, .bipush 9, 2, mi_o), (17, .istore 7, 2, mi_o), (19, .iload 7, 2, mi_o)]), (32, [(21, .ifCond .lt 37, 3, mi_o), (24, .aload_n 0, 1, mi_o), (25, .getfield 9, 3, 9, 1, 0, 0, 325), (28, .iload_n 2, 1, mi_o), (29, .iload 7, 2, mi_o), (31, .iastore, 1, mi_o)]), (45, [(32, .aload_n 0, 1, mi_o), (33, .iload_n 1, 1, mi_o), (34, .invokevirtual 320, 3, 192, 0, 9, 0, 444), (37, .bipush (-2), 2, mi_o), (39, .if_icmp .eq 6, 3, mi_o), (42, .goto 10, 3, mi_o)]), (59, [(45, .iinc 5 1, 3, mi_o), (48, .iload 7, 2, mi_o), (50, .istore 6, 2, mi_o), (52, .iinc 7 (-1), 3, mi_o), (55, .goto (-36), 3, mi_o), (58, .aload_n 0, 1, mi_o)]), (70, [(59, .getfield 9, 3, 9, 1, 0, 0, 325), (62, .iload_n 2, 1, mi_o), (63, .iload 4, 2, mi_o), (65, .iastore, 1, mi_o), (66, .iload_n 3, 1, mi_o), (67, .ifCond .eq 8, 3, mi_o)]), (100000, [(70, .iload 6, 2, mi_o), (72, .goto 5, 3, mi_o), (75, .iload 5, 2, mi_o), (77, .ireturn, 1, mi_o)])]
noncomputable def mi_c196 : List (Nat × mi_I) := ft_flat ft_196
noncomputable def ft_197 : List (Nat × List (Nat × mi_I)) := [(14, [(0, .aload_n 0, 1, mi_o), (1, .iload_n 1, 1, mi_o), (2, .invokevirtual 314, 3, 190, 0, 9, 0, 442), (5, .ifCond .eq 37, 3, mi_o), (8, .iload_n 3, 1, mi_o), (9, .iconst 0, 1, mi_o), (10, .iconst 3, 1, mi_o), (11, .invokestatic 119, 3, 131, 0, 9, 0, 379)]), (30, [(14, .ifCond .eq 28, 3, mi_o), (17, .iload_n 2, 1, mi_o), (18, .ifCond .lt 24, 3, mi_o), (21, .iload_n 3, 1, mi_o), (22, .ifCond .ne 7, 3, mi_o), (25, .iload_n 2, 1, mi_o), (26, .ifCond .ne 16, 3, mi_o), (29, .iload_n 3, 1, mi_o)]), (44, [(30, .iconst 1, 1, mi_o), (31, .if_icmp .le 13, 3, mi_o), (34, .aload_n 0, 1, mi_o), (35, .iload_n 2, 1, mi_o), (36, .invokevirtual 137, 3, 132, 0, 9, 0, 387), (39, .ifCond .ne 5, 3, mi_o), (42, .iconst (-1), 1, mi_o), (43, .ireturn, 1, mi_o)]), (59, [(44, .aload_n 0, 1, mi_o), (45, .iload_n 1, 1, mi_o), (46, .invokevirtual 317, 3, 191, 0, 9, 0, 443), (49, .istore 4, 2, mi_o), (51, .iload 4, 2, mi_o), (53, .ifCond .ge 6, 3, mi_o), (56, .iload 4, 2, mi_o), (58, .ireturn, 1, mi_o)]), (72, [(59, .aload_n 0, 1, mi_o), (60, .iload_n 1, 1, mi_o), (61, .bipush 10, 2, mi_o), (63, .idiv, 1, mi_o), (64, .invokevirtual 279, 3, 174, 0, 9, 0, 411), (67, .iload_n 3, 1, mi_o), (68, .iconst 1, 1, mi_o), (69, .if_icmp .ne 13, 3, mi_o)]), (86, [(72, .iload_n 2, 1, mi_o), (73, .aload_n 0, 1, mi_o), (74, .getfield 257, 3, 9, 45, 0, 0, 369), (77, .if_icmp .lt 5, 3, mi_o), (80, .iconst (-1), 1, mi_o), (81, .ireturn, 1, mi_o), (82, .iload_n 3, 1, mi_o), (83, .ifCond .ne 14, 3, mi_o)]), (99, [(86, .aload_n 0, 1, mi_o), (87, .iload_n 1, 1, mi_o), (88, .bipush 10, 2, mi_o), (90, .irem, 1, mi_o), (91, .invokevirtual 323, 3, 194, 0, 9, 0, 446), (94, .goto 39, 3, mi_o), (97, .iload_n 3, 1, mi_o), (98, .iconst 1, 1, mi_o)]), (114, [(99, .if_icmp .ne 15, 3, mi_o), (102, .aload_n 0, 1, mi_o), (103, .iload_n 1, 1, mi_o), (104, .bipush 10, 2, mi_o), (106, .irem, 1, mi_o), (107, .iload_n 2, 1, mi_o), (108, .invokevirtual 326, 3, 195, 0, 9, 0, 447), (111, .goto 22, 3, mi_o)]), (125, [(114, .aload_n 0, 1, mi_o), (115, .iload_n 1, 1, mi_o), (116, .bipush 10, 2, mi_o), (118, .irem, 1, mi_o), (119, .iload_n 2, 1, mi_o), (120, .iload_n 3, 1, mi_o), (121, .iconst 3, 1, mi_o), (122, .if_icmp .ne 7, 3, mi_o)]), (100000, [(125, .iconst 1, 1, mi_o), (126, .goto 4, 3, mi_o), (129, .iconst 0, 1, mi_o), (130, .invokevirtual 329, 3, 196, 0, 9, 0, 448), (133, .ireturn, 1, mi_o)])]
noncomputable def mi_c197 : List (Nat × mi_I) := ft_flat ft_197
noncomputable def ft_198 : List (Nat × List (Nat × mi_I)) := [(8, [(0, .aload_n 0, 1, mi_o), (1, .aload_n 0, 1, mi_o), (2, .getfield 89, 3, 9, 39, 0, 0, 363), (5, .bipush 31, 2, mi_o), (7, .iload_n 1, 1, mi_o)]), (15, [(8, .imul, 1, mi_o), (9, .invokevirtual 263, 3, 168, 0, 9, 0, 413), (12, .aload_n 0, 1, mi_o), (13, .iload_n 1, 1, mi_o), (14, .iconst 2, 1, mi_o)]), (25, [(15, .irem, 1, mi_o), (16, .ifCond .ne 7, 3, mi_o), (19, .iload_n 3, 1, mi_o), (20, .goto 5, 3, mi_o), (23, .iload 4, 2, mi_o)]), (32, [(25, .invokevirtual 260, 3, 166, 0, 9, 0, 415), (28, .pop, 1, mi_o), (29, .aload_n 0, 1, mi_o), (30, .iload_n 1, 1, mi_o), (31, .iconst 1, 1, mi_o)]), (40, [(32, .iadd, 1, mi_o), (33, .iload_n 2, 1, mi_o), (34, .iload_n 3, 1, mi_o), (35, .iload 4, 2, mi_o), (37, .invokevirtual 333, 3, 199, 0, 9, 0, 451)]), (49, [(40, .istore 5, 2, mi_o), (42, .aload_n 0, 1, mi_o), (43, .aload_n 0, 1, mi_o), (44, .getfield 89, 3, 9, 39, 0, 0, 363), (47, .bipush 31, 2, mi_o)]), (100000, [(49, .iload_n 1, 1, mi_o), (50, .imul, 1, mi_o), (51, .invokevirtual 273, 3, 169, 0, 9, 0, 423), (54, .iload 5, 2, mi_o), (56, .ireturn, 1, mi_o)])]
noncomputable def mi_c198 : List (Nat × mi_I) := ft_flat ft_198
noncomputable def ft_199 : List (Nat × List (Nat × mi_I)) := [(10, [(0, .iload_n 1, 1, mi_o), (1, .iload_n 2, 1, mi_o), (2, .if_icmp .ne 18, 3, mi_o), (5, .aload_n 0, 1, mi_o), (6, .getfield 22, 3, 9, 4, 0, 0, 328), (9, .iload_n 3, 1, mi_o)]), (19, [(10, .iaload, 1, mi_o), (11, .aload_n 0, 1, mi_o), (12, .getfield 22, 3, 9, 4, 0, 0, 328), (15, .iload 4, 2, mi_o), (17, .iaload, 1, mi_o), (18, .isub, 1, mi_o)]), (25, [(19, .ireturn, 1, mi_o), (20, .aload_n 0, 1, mi_o), (21, .iload_n 1, 1, mi_o), (22, .iconst 1, 1, mi_o), (23, .iadd, 1, mi_o), (24, .iload_n 2, 1, mi_o)]), (35, [(25, .iload_n 3, 1, mi_o), (26, .iload 4, 2, mi_o), (28, .invokevirtual 333, 3, 199, 0, 9, 0, 451), (31, .istore 5, 2, mi_o), (33, .aload_n 0, 1, mi_o), (34, .iload_n 1, 1, mi_o)]), (45, [(35, .iload_n 2, 1, mi_o), (36, .iload_n 3, 1, mi_o), (37, .iload 4, 2, mi_o), (39, .invokevirtual 337, 3, 198, 0, 9, 0, 452), (42, .istore 6, 2, mi_o), (44, .iload_n 1, 1, mi_o)]), (57, [(45, .iconst 2, 1, mi_o), (46, .irem, 1, mi_o), (47, .ifCond .ne 13, 3, mi_o), (50, .iload 5, 2, mi_o), (52, .iload 6, 2, mi_o), (54, .invokestatic 235, 3, 0, 0, 14, 0, 422)]), (100000, [(57, .goto 10, 3, mi_o), (60, .iload 5, 2, mi_o), (62, .iload 6, 2, mi_o), (64, .invokestatic 230, 3, 0, 0, 15, 0, 417), (67, .ireturn, 1, mi_o)])]
noncomputable def mi_c199 : List (Nat × mi_I) := ft_flat ft_199
noncomputable def ft_200 : List (Nat × List (Nat × mi_I)) := [(11, [(0, .aload_n 0, 1, mi_o), (1, .iload_n 1, 1, mi_o), (2, .invokevirtual 308, 3, 186, 0, 9, 0, 438), (5, .ifCond .eq 21, 3, mi_o), (8, .iload_n 2, 1, mi_o), (9, .iconst 1, 1, mi_o), (10, .iconst 5, 1, mi_o)]), (26, [(11, .invokestatic 119, 3, 131, 0, 9, 0, 379), (14, .ifCond .eq 12, 3, mi_o), (17, .iload_n 3, 1, mi_o), (18, .iconst 0, 1, mi_o), (19, .iconst 1, 1, mi_o), (20, .invokestatic 119, 3, 131, 0, 9, 0, 379), (23, .ifCond .ne 7, 3, mi_o)]), (36, [(26, .ldc_w 340, 3, 0, 0, 6, -2000000000, 450), (29, .ireturn, 1, mi_o), (30, .aload_n 0, 1, mi_o), (31, .iconst 1, 1, mi_o), (32, .iload_n 2, 1, mi_o), (33, .iload_n 1, 1, mi_o), (34, .bipush 10, 2, mi_o)]), (47, [(36, .idiv, 1, mi_o), (37, .iload_n 1, 1, mi_o), (38, .bipush 10, 2, mi_o), (40, .irem, 1, mi_o), (41, .invokevirtual 333, 3, 199, 0, 9, 0, 451), (44, .istore 4, 2, mi_o), (46, .aload_n 0, 1, mi_o)]), (56, [(47, .iconst 0, 1, mi_o), (48, .iload_n 2, 1, mi_o), (49, .iload_n 1, 1, mi_o), (50, .bipush 10, 2, mi_o), (52, .idiv, 1, mi_o), (53, .iload_n 1, 1, mi_o), (54, .bipush 10, 2, mi_o)]), (70, [(56, .irem, 1, mi_o), (57, .invokevirtual 337, 3, 198, 0, 9, 0, 452), (60, .istore 5, 2, mi_o), (62, .iload_n 3, 1, mi_o), (63, .ifCond .ne 13, 3, mi_o), (66, .iload 4, 2, mi_o), (68, .iload 5, 2, mi_o)]), (87, [(70, .invokestatic 235, 3, 0, 0, 14, 0, 422), (73, .goto 15, 3, mi_o), (76, .iload 5, 2, mi_o), (78, .iload 4, 2, mi_o), (80, .if_icmp .le 7, 3, mi_o), (83, .iconst 1, 1, mi_o), (84, .goto 4, 3, mi_o)]), (100000, [(87, .iconst 0, 1, mi_o), (88, .ireturn, 1, mi_o)])]
noncomputable def mi_c200 : List (Nat × mi_I) := ft_flat ft_200
noncomputable def ft_201 : List (Nat × List (Nat × mi_I)) := [(19, [(0, .iload_n 2, 1, mi_o), (1, .ifCond .lt 55, 3, mi_o), (4, .iload_n 2, 1, mi_o), (5, .sipush 10000, 3, mi_o), (8, .idiv, 1, mi_o), (9, .iconst 1, 1, mi_o), (10, .bipush 30, 2, mi_o), (12, .invokestatic 119, 3, 131, 0, 9, 0, 379), (15, .ifCond .eq 41, 3, mi_o), (18, .iload_n 2, 1, mi_o)]), (37, [(19, .bipush 100, 2, mi_o), (21, .idiv, 1, mi_o), (22, .bipush 100, 2, mi_o), (24, .irem, 1, mi_o), (25, .iconst 1, 1, mi_o), (26, .bipush 60, 2, mi_o), (28, .invokestatic 119, 3, 131, 0, 9, 0, 379), (31, .ifCond .eq 25, 3, mi_o), (34, .iload_n 2, 1, mi_o), (35, .bipush 100, 2, mi_o)]), (56, [(37, .irem, 1, mi_o), (38, .bipush 12, 2, mi_o), (40, .if_icmp .gt 16, 3, mi_o), (43, .iload_n 3, 1, mi_o), (44, .iconst (-1), 1, mi_o), (45, .if_icmp .eq 13, 3, mi_o), (48, .aload_n 0, 1, mi_o), (49, .iload_n 3, 1, mi_o), (50, .invokevirtual 137, 3, 132, 0, 9, 0, 387), (53, .ifCond .ne 5, 3, mi_o)]), (71, [(56, .iconst (-1), 1, mi_o), (57, .ireturn, 1, mi_o), (58, .aload_n 0, 1, mi_o), (59, .invokevirtual 267, 3, 171, 0, 9, 0, 412), (62, .iload_n 1, 1, mi_o), (63, .istore 4, 2, mi_o), (65, .iconst 0, 1, mi_o), (66, .istore 5, 2, mi_o), (68, .iconst 0, 1, mi_o), (69, .istore 6, 2, mi_o)]), (91, [(71, .iload 6, 2, mi_o), (73, .iload_n 2, 1, mi_o), (74, .sipush 10000, 3, mi_o), (77, .idiv, 1, mi_o), (78, .if_icmp .ge 108, 3, mi_o), (81, .aload_n 0, 1, mi_o), (82, .getfield 116, 3, 9, 0, 0, 0, 324), (85, .ifCond .le 101, 3, mi_o), (88, .iconst 0, 1, mi_o), (89, .istore 7, 2, mi_o)]), (109, [(91, .iload 7, 2, mi_o), (93, .iload_n 2, 1, mi_o), (94, .bipush 100, 2, mi_o), (96, .idiv, 1, mi_o), (97, .bipush 100, 2, mi_o), (99, .irem, 1, mi_o), (100, .if_icmp .ge 55, 3, mi_o), (103, .iload 4, 2, mi_o), (105, .ldc_w 341, 3, 0, 0, 6, 1103515245, 454), (108, .imul, 1, mi_o)]), (126, [(109, .sipush 12345, 3, mi_o), (112, .iadd, 1, mi_o), (113, .istore 4, 2, mi_o), (115, .iload 4, 2, mi_o), (117, .bipush 16, 2, mi_o), (119, .iushr, 1, mi_o), (120, .bipush 12, 2, mi_o), (122, .irem, 1, mi_o), (123, .iload_n 2, 1, mi_o), (124, .bipush 100, 2, mi_o)]), (144, [(126, .irem, 1, mi_o), (127, .if_icmp .ge 7, 3, mi_o), (130, .aload_n 0, 1, mi_o), (131, .invokevirtual 282, 3, 167, 0, 9, 0, 426), (134, .aload_n 0, 1, mi_o), (135, .iload 4, 2, mi_o), (137, .bipush 8, 2, mi_o), (139, .iushr, 1, mi_o), (140, .aload_n 0, 1, mi_o), (141, .getfield 116, 3, 9, 0, 0, 0, 324)]), (163, [(144, .irem, 1, mi_o), (145, .invokevirtual 260, 3, 166, 0, 9, 0, 415), (148, .pop, 1, mi_o), (149, .iinc 7 1, 3, mi_o), (152, .goto (-61), 3, mi_o), (155, .iload_n 3, 1, mi_o), (156, .iconst (-1), 1, mi_o), (157, .if_icmp .eq 14, 3, mi_o), (160, .iload 5, 2, mi_o), (162, .aload_n 0, 1, mi_o)]), (180, [(163, .getfield 22, 3, 9, 4, 0, 0, 328), (166, .iload_n 3, 1, mi_o), (167, .iaload, 1, mi_o), (168, .iadd, 1, mi_o), (169, .istore 5, 2, mi_o), (171, .aload_n 0, 1, mi_o), (172, .aload_n 0, 1, mi_o), (173, .getfield 86, 3, 9, 38, 0, 0, 362), (176, .iconst 0, 1, mi_o), (177, .invokevirtual 273, 3, 169, 0, 9, 0, 423)]), (100000, [(180, .iinc 6 1, 3, mi_o), (183, .goto (-112), 3, mi_o), (186, .iload_n 3, 1, mi_o), (187, .iconst (-1), 1, mi_o), (188, .if_icmp .ne 10, 3, mi_o), (191, .aload_n 0, 1, mi_o), (192, .getfield 241, 3, 9, 43, 0, 0, 367), (195, .goto 5, 3, mi_o), (198, .iload 5, 2, mi_o), (200, .ireturn, 1, mi_o)])]
noncomputable def mi_c201 : List (Nat × mi_I) := ft_flat ft_201
noncomputable def ft_202 : List (Nat × List (Nat × mi_I)) := [(10, [(0, .aload_n 0, 1, mi_o), (1, .iload_n 1, 1, mi_o), (2, .invokevirtual 137, 3, 132, 0, 9, 0, 387), (5, .ifCond .ne 5, 3, mi_o), (8, .iconst (-1), 1, mi_o), (9, .ireturn, 1, mi_o)]), (20, [(10, .aload_n 0, 1, mi_o), (11, .iconst 0, 1, mi_o), (12, .putfield 241, 3, 9, 43, 0, 0, 367), (15, .aload_n 0, 1, mi_o), (16, .iload_n 1, 1, mi_o), (17, .invokevirtual 260, 3, 166, 0, 9, 0, 415)]), (30, [(20, .ifCond .eq 13, 3, mi_o), (23, .aload_n 0, 1, mi_o), (24, .getfield 58, 3, 9, 23, 0, 0, 347), (27, .iconst 0, 1, mi_o), (28, .dup2, 1, mi_o), (29, .iaload, 1, mi_o)]), (38, [(30, .iconst 1, 1, mi_o), (31, .iadd, 1, mi_o), (32, .iastore, 1, mi_o), (33, .aload_n 0, 1, mi_o), (34, .getfield 58, 3, 9, 23, 0, 0, 347), (37, .iconst 1, 1, mi_o)]), (46, [(38, .dup2, 1, mi_o), (39, .iaload, 1, mi_o), (40, .aload_n 0, 1, mi_o), (41, .getfield 244, 3, 9, 41, 0, 0, 365), (44, .iadd, 1, mi_o), (45, .iastore, 1, mi_o)]), (54, [(46, .aload_n 0, 1, mi_o), (47, .getfield 58, 3, 9, 23, 0, 0, 347), (50, .iconst 2, 1, mi_o), (51, .dup2, 1, mi_o), (52, .iaload, 1, mi_o), (53, .aload_n 0, 1, mi_o)]), (100000, [(54, .getfield 241, 3, 9, 43, 0, 0, 367), (57, .iadd, 1, mi_o), (58, .iastore, 1, mi_o), (59, .aload_n 0, 1, mi_o), (60, .getfield 244, 3, 9, 41, 0, 0, 365), (63, .ireturn, 1, mi_o)])]
noncomputable def mi_c202 : List (Nat × mi_I) := ft_flat ft_202
noncomputable def ft_203 : List (Nat × List (Nat × mi_I)) := [(8, [(0, .aload_n 0, 1, mi_o), (1, .invokevirtual 282, 3, 167, 0, 9, 0, 426), (4, .aload_n 0, 1, mi_o), (5, .getfield 58, 3, 9, 23, 0, 0, 347)]), (12, [(8, .iconst 3, 1, mi_o), (9, .dup2, 1, mi_o), (10, .iaload, 1, mi_o), (11, .iconst 1, 1, mi_o)]), (18, [(12, .iadd, 1, mi_o), (13, .iastore, 1, mi_o), (14, .aload_n 0, 1, mi_o), (15, .getfield 22, 3, 9, 4, 0, 0, 328)]), (100000, [(18, .bipush 8, 2, mi_o), (20, .iaload, 1, mi_o), (21, .ireturn, 1, mi_o)])]
noncomputable def mi_c203 : List (Nat × mi_I) := ft_flat ft_203
noncomputable def ft_204 : List (Nat × List (Nat × mi_I)) := [(13, [(0, .aload_n 0, 1, mi_o), (1, .iload_n 1, 1, mi_o), (2, .invokevirtual 137, 3, 132, 0, 9, 0, 387), (5, .ifCond .eq 27, 3, mi_o), (8, .aload_n 0, 1, mi_o), (9, .iload_n 2, 1, mi_o), (10, .invokevirtual 137, 3, 132, 0, 9, 0, 387)]), (26, [(13, .ifCond .eq 19, 3, mi_o), (16, .iload_n 1, 1, mi_o), (17, .iload_n 2, 1, mi_o), (18, .if_icmp .eq 14, 3, mi_o), (21, .iload_n 3, 1, mi_o), (22, .iconst 1, 1, mi_o), (23, .sipush 999, 3, mi_o)]), (39, [(26, .invokestatic 119, 3, 131, 0, 9, 0, 379), (29, .ifCond .ne 5, 3, mi_o), (32, .iconst (-1), 1, mi_o), (33, .ireturn, 1, mi_o), (34, .aload_n 0, 1, mi_o), (35, .getfield 22, 3, 9, 4, 0, 0, 328), (38, .iload_n 1, 1, mi_o)]), (51, [(39, .iaload, 1, mi_o), (40, .iload_n 3, 1, mi_o), (41, .if_icmp .ge 6, 3, mi_o), (44, .bipush (-5), 2, mi_o), (46, .ireturn, 1, mi_o), (47, .aload_n 0, 1, mi_o), (48, .getfield 22, 3, 9, 4, 0, 0, 328)]), (58, [(51, .iload_n 1, 1, mi_o), (52, .dup2, 1, mi_o), (53, .iaload, 1, mi_o), (54, .iload_n 3, 1, mi_o), (55, .isub, 1, mi_o), (56, .iastore, 1, mi_o), (57, .aload_n 0, 1, mi_o)]), (71, [(58, .getfield 22, 3, 9, 4, 0, 0, 328), (61, .iload_n 2, 1, mi_o), (62, .sipush 999, 3, mi_o), (65, .aload_n 0, 1, mi_o), (66, .getfield 22, 3, 9, 4, 0, 0, 328), (69, .iload_n 2, 1, mi_o), (70, .iaload, 1, mi_o)]), (82, [(71, .iload_n 3, 1, mi_o), (72, .iadd, 1, mi_o), (73, .invokestatic 230, 3, 0, 0, 15, 0, 417), (76, .iastore, 1, mi_o), (77, .aload_n 0, 1, mi_o), (78, .getfield 58, 3, 9, 23, 0, 0, 347), (81, .iconst 4, 1, mi_o)]), (91, [(82, .dup2, 1, mi_o), (83, .iaload, 1, mi_o), (84, .iload_n 3, 1, mi_o), (85, .iadd, 1, mi_o), (86, .iastore, 1, mi_o), (87, .aload_n 0, 1, mi_o), (88, .getfield 22, 3, 9, 4, 0, 0, 328)]), (100000, [(91, .iload_n 1, 1, mi_o), (92, .iaload, 1, mi_o), (93, .ireturn, 1, mi_o)])]
noncomputable def mi_c204 : List (Nat × mi_I) := ft_flat ft_204
noncomputable def ft_205 : List (Nat × List (Nat × mi_I)) := [(6, [(0, .iload_n 1, 1, mi_o), (1, .iconst 0, 1, mi_o), (2, .iconst 4, 1, mi_o), (3, .invokestatic 119, 3, 131, 0, 9, 0, 379)]), (14, [(6, .ifCond .eq 12, 3, mi_o), (9, .aload_n 0, 1, mi_o), (10, .getfield 58, 3, 9, 23, 0, 0, 347), (13, .iload_n 1, 1, mi_o)]), (100000, [(14, .iaload, 1, mi_o), (15, .goto 4, 3, mi_o), (18, .iconst (-1), 1, mi_o), (19, .ireturn, 1, mi_o)])]
noncomputable def mi_c205 : List (Nat × mi_I) := ft_flat ft_205
noncomputable def ft_206 : List (Nat × List (Nat × mi_I)) := [(7, [(0, .aload_n 0, 1, mi_o), (1, .iconst 1, 1, mi_o), (2, .putfield 342, 3, 9, 24, 0, 0, 348), (5, .aload_n 0, 1, mi_o), (6, .aload_n 0, 1, mi_o)]), (18, [(7, .getfield 116, 3, 9, 0, 0, 0, 324), (10, .putfield 345, 3, 9, 25, 0, 0, 349), (13, .aload_n 0, 1, mi_o), (14, .aload_n 0, 1, mi_o), (15, .getfield 61, 3, 9, 26, 0, 0, 350)]), (25, [(18, .iconst 0, 1, mi_o), (19, .invokevirtual 263, 3, 168, 0, 9, 0, 413), (22, .iconst 0, 1, mi_o), (23, .istore_n 1, 1, mi_o), (24, .iload_n 1, 1, mi_o)]), (34, [(25, .iconst 5, 1, mi_o), (26, .if_icmp .ge 21, 3, mi_o), (29, .aload_n 0, 1, mi_o), (30, .getfield 64, 3, 9, 27, 0, 0, 351), (33, .iload_n 1, 1, mi_o)]), (41, [(34, .aload_n 0, 1, mi_o), (35, .getfield 58, 3, 9, 23, 0, 0, 347), (38, .iload_n 1, 1, mi_o), (39, .iaload, 1, mi_o), (40, .iastore, 1, mi_o)]), (52, [(41, .iinc 1 1, 3, mi_o), (44, .goto (-20), 3, mi_o), (47, .aload_n 0, 1, mi_o), (48, .getfield 58, 3, 9, 23, 0, 0, 347), (51, .iconst 0, 1, mi_o)]), (100000, [(52, .iaload, 1, mi_o), (53, .ireturn, 1, mi_o)])]
noncomputable def mi_c206 : List (Nat × mi_I) := ft_flat ft_206
noncomputable def ft_207 : List (Nat × List (Nat × mi_I)) := [(12, [(0, .aload_n 0, 1, mi_o), (1, .getfield 342, 3, 9, 24, 0, 0, 348), (4, .ifCond .ne 6, 3, mi_o), (7, .bipush (-5), 2, mi_o), (9, .ireturn, 1, mi_o), (10, .iconst 0, 1, mi_o), (11, .istore_n 1, 1, mi_o)]), (25, [(12, .iload_n 1, 1, mi_o), (13, .bipush 31, 2, mi_o), (15, .if_icmp .ge 62, 3, mi_o), (18, .iload_n 1, 1, mi_o), (19, .bipush 8, 2, mi_o), (21, .if_icmp .ge 11, 3, mi_o), (24, .iload_n 1, 1, mi_o)]), (39, [(25, .aload_n 0, 1, mi_o), (26, .getfield 345, 3, 9, 25, 0, 0, 349), (29, .if_icmp .ge 20, 3, mi_o), (32, .iload_n 1, 1, mi_o), (33, .bipush 10, 2, mi_o), (35, .aload_n 0, 1, mi_o), (36, .getfield 345, 3, 9, 25, 0, 0, 349)]), (53, [(39, .iadd, 1, mi_o), (40, .if_icmp .lt 13, 3, mi_o), (43, .iload_n 1, 1, mi_o), (44, .bipush 18, 2, mi_o), (46, .if_icmp .ge 7, 3, mi_o), (49, .iconst 1, 1, mi_o), (50, .goto 4, 3, mi_o)]), (64, [(53, .iconst 0, 1, mi_o), (54, .istore_n 2, 1, mi_o), (55, .iload_n 2, 1, mi_o), (56, .ifCond .ne 15, 3, mi_o), (59, .aload_n 0, 1, mi_o), (60, .getfield 22, 3, 9, 4, 0, 0, 328), (63, .iload_n 1, 1, mi_o)]), (77, [(64, .aload_n 0, 1, mi_o), (65, .getfield 61, 3, 9, 26, 0, 0, 350), (68, .iload_n 1, 1, mi_o), (69, .iaload, 1, mi_o), (70, .iastore, 1, mi_o), (71, .iinc 1 1, 3, mi_o), (74, .goto (-62), 3, mi_o)]), (88, [(77, .iconst 0, 1, mi_o), (78, .istore_n 1, 1, mi_o), (79, .iload_n 1, 1, mi_o), (80, .iconst 5, 1, mi_o), (81, .if_icmp .ge 21, 3, mi_o), (84, .aload_n 0, 1, mi_o), (85, .getfield 58, 3, 9, 23, 0, 0, 347)]), (99, [(88, .iload_n 1, 1, mi_o), (89, .aload_n 0, 1, mi_o), (90, .getfield 64, 3, 9, 27, 0, 0, 351), (93, .iload_n 1, 1, mi_o), (94, .iaload, 1, mi_o), (95, .iastore, 1, mi_o), (96, .iinc 1 1, 3, mi_o)]), (100000, [(99, .goto (-20), 3, mi_o), (102, .aload_n 0, 1, mi_o), (103, .getfield 58, 3, 9, 23, 0, 0, 347), (106, .iconst 0, 1, mi_o), (107, .iaload, 1, mi_o), (108, .ireturn, 1, mi_o)])]
noncomputable def mi_c207 : List (Nat × mi_I) := ft_flat ft_207
noncomputable def ft_208 : List (Nat × List (Nat × mi_I)) := [(38, [(0, .iload_n 0, 1, mi_o), (1, .tableswitch 43 3 7 #[35, 37, 39, 43, 41], 35, mi_o), (36, .iconst 2, 1, mi_o), (37, .ireturn, 1, mi_o)]), (42, [(38, .iconst 1, 1, mi_o), (39, .ireturn, 1, mi_o), (40, .iconst 3, 1, mi_o), (41, .ireturn, 1, mi_o)]), (100000, [(42, .iconst 4, 1, mi_o), (43, .ireturn, 1, mi_o), (44, .iconst 0, 1, mi_o), (45, .ireturn, 1, mi_o)])]
noncomputable def mi_c208 : List (Nat × mi_I) := ft_flat ft_208
noncomputable def ft_209 : List (Nat × List (Nat × mi_I)) := [(9, [(0, .aload_n 0, 1, mi_o), (1, .getfield 348, 3, 9, 33, 0, 0, 357), (4, .bipush 24, 2, mi_o), (6, .if_icmp .ge 13, 3, mi_o)]), (17, [(9, .aload_n 0, 1, mi_o), (10, .getfield 73, 3, 9, 34, 0, 0, 358), (13, .aload_n 0, 1, mi_o), (14, .getfield 348, 3, 9, 33, 0, 0, 357)]), (21, [(17, .iload_n 1, 1, mi_o), (18, .iastore, 1, mi_o), (19, .aload_n 0, 1, mi_o), (20, .dup, 1, mi_o)]), (29, [(21, .getfield 348, 3, 9, 33, 0, 0, 357), (24, .iconst 1, 1, mi_o), (25, .iadd, 1, mi_o), (26, .putfield 348, 3, 9, 33, 0, 0, 357)]), (100000, [(29, .return_, 1, mi_o)])]
noncomputable def mi_c209 : List (Nat × mi_I) := ft_flat ft_209
noncomputable def ft_210 : List (Nat × List (Nat × mi_I)) := [(42, [(0, .iload_n 2, 1, mi_o), (1, .lookupswitch 76 #[(0, 35), (1, 44), (6, 60)], 35, mi_o), (36, .aload_n 0, 1, mi_o), (37, .iconst 1, 1, mi_o), (38, .invokevirtual 351, 3, 209, 0, 9, 0, 464), (41, .iload_n 3, 1, mi_o)]), (51, [(42, .iload_n 1, 1, mi_o), (43, .iadd, 1, mi_o), (44, .ireturn, 1, mi_o), (45, .aload_n 0, 1, mi_o), (46, .bipush 20, 2, mi_o), (48, .invokevirtual 351, 3, 209, 0, 9, 0, 464)]), (59, [(51, .aload_n 0, 1, mi_o), (52, .iload_n 1, 1, mi_o), (53, .iconst 0, 1, mi_o), (54, .iload_n 3, 1, mi_o), (55, .invokevirtual 354, 3, 210, 0, 9, 0, 463), (58, .iconst 3, 1, mi_o)]), (68, [(59, .iadd, 1, mi_o), (60, .ireturn, 1, mi_o), (61, .aload_n 0, 1, mi_o), (62, .bipush 70, 2, mi_o), (64, .invokevirtual 351, 3, 209, 0, 9, 0, 464), (67, .aload_n 0, 1, mi_o)]), (76, [(68, .iload_n 1, 1, mi_o), (69, .iconst 0, 1, mi_o), (70, .iload_n 3, 1, mi_o), (71, .invokevirtual 354, 3, 210, 0, 9, 0, 463), (74, .iconst 2, 1, mi_o), (75, .imul, 1, mi_o)]), (84, [(76, .ireturn, 1, mi_o), (77, .aload_n 0, 1, mi_o), (78, .iload_n 1, 1, mi_o), (79, .iload_n 2, 1, mi_o), (80, .invokestatic 357, 3, 208, 0, 9, 0, 465), (83, .iload_n 3, 1, mi_o)]), (100000, [(84, .invokevirtual 354, 3, 210, 0, 9, 0, 463), (87, .ireturn, 1, mi_o)])]
noncomputable def mi_c210 : List (Nat × mi_I) := ft_flat ft_210
noncomputable def ft_211 : List (Nat × List (Nat × mi_I)) := [(57, [(0, .iload_n 2, 1, mi_o), (1, .tableswitch 130 0 7 #[47, 130, 68, 83, 130, 130, 130, 99], 47, mi_o), (48, .aload_n 0, 1, mi_o), (49, .bipush 10, 2, mi_o), (51, .invokevirtual 351, 3, 209, 0, 9, 0, 464), (54, .aload_n 0, 1, mi_o), (55, .iload_n 1, 1, mi_o), (56, .aload_n 0, 1, mi_o)]), (69, [(57, .getfield 70, 3, 9, 32, 0, 0, 356), (60, .iload_n 1, 1, mi_o), (61, .iaload, 1, mi_o), (62, .iload_n 3, 1, mi_o), (63, .invokevirtual 354, 3, 210, 0, 9, 0, 463), (66, .iconst 2, 1, mi_o), (67, .imul, 1, mi_o), (68, .ireturn, 1, mi_o)]), (82, [(69, .aload_n 0, 1, mi_o), (70, .bipush 30, 2, mi_o), (72, .invokevirtual 351, 3, 209, 0, 9, 0, 464), (75, .aload_n 0, 1, mi_o), (76, .iload_n 1, 1, mi_o), (77, .iconst 0, 1, mi_o), (78, .iload_n 3, 1, mi_o), (79, .invokevirtual 360, 3, 211, 0, 9, 0, 466)]), (93, [(82, .ineg, 1, mi_o), (83, .ireturn, 1, mi_o), (84, .aload_n 0, 1, mi_o), (85, .bipush 41, 2, mi_o), (87, .invokevirtual 351, 3, 209, 0, 9, 0, 464), (90, .aload_n 0, 1, mi_o), (91, .iload_n 1, 1, mi_o), (92, .iconst 2, 1, mi_o)]), (106, [(93, .iload_n 3, 1, mi_o), (94, .iconst 1, 1, mi_o), (95, .iadd, 1, mi_o), (96, .invokevirtual 360, 3, 211, 0, 9, 0, 466), (99, .ireturn, 1, mi_o), (100, .aload_n 0, 1, mi_o), (101, .bipush 80, 2, mi_o), (103, .invokevirtual 351, 3, 209, 0, 9, 0, 464)]), (118, [(106, .aload_n 0, 1, mi_o), (107, .iload_n 1, 1, mi_o), (108, .iconst 4, 1, mi_o), (109, .iload_n 3, 1, mi_o), (110, .invokevirtual 360, 3, 211, 0, 9, 0, 466), (113, .istore 4, 2, mi_o), (115, .iload 4, 2, mi_o), (117, .aload_n 0, 1, mi_o)]), (130, [(118, .iload_n 1, 1, mi_o), (119, .aload_n 0, 1, mi_o), (120, .getfield 70, 3, 9, 32, 0, 0, 356), (123, .iload_n 1, 1, mi_o), (124, .iaload, 1, mi_o), (125, .iconst 2, 1, mi_o), (126, .invokevirtual 363, 3, 212, 0, 9, 0, 467), (129, .iadd, 1, mi_o)]), (100000, [(130, .ireturn, 1, mi_o), (131, .aload_n 0, 1, mi_o), (132, .iload_n 1, 1, mi_o), (133, .iload_n 2, 1, mi_o), (134, .invokestatic 357, 3, 208, 0, 9, 0, 465), (137, .iload_n 3, 1, mi_o), (138, .invokevirtual 360, 3, 211, 0, 9, 0, 466), (141, .ireturn, 1, mi_o)])]
noncomputable def mi_c211 : List (Nat × mi_I) := ft_flat ft_211
noncomputable def ft_212 : List (Nat × List (Nat × mi_I)) := [(43, [(0, .iload_n 2, 1, mi_o), (1, .tableswitch 92 0 4 #[35, 92, 92, 45, 61], 35, mi_o), (36, .aload_n 0, 1, mi_o), (37, .bipush 11, 2, mi_o), (39, .invokevirtual 351, 3, 209, 0, 9, 0, 464), (42, .iload_n 3, 1, mi_o)]), (52, [(43, .iload_n 1, 1, mi_o), (44, .ixor, 1, mi_o), (45, .ireturn, 1, mi_o), (46, .aload_n 0, 1, mi_o), (47, .bipush 40, 2, mi_o), (49, .invokevirtual 351, 3, 209, 0, 9, 0, 464)]), (60, [(52, .aload_n 0, 1, mi_o), (53, .iload_n 1, 1, mi_o), (54, .iconst 2, 1, mi_o), (55, .iload_n 3, 1, mi_o), (56, .invokevirtual 363, 3, 212, 0, 9, 0, 467), (59, .iconst 3, 1, mi_o)]), (69, [(60, .imul, 1, mi_o), (61, .ireturn, 1, mi_o), (62, .aload_n 0, 1, mi_o), (63, .bipush 50, 2, mi_o), (65, .invokevirtual 351, 3, 209, 0, 9, 0, 464), (68, .aload_n 0, 1, mi_o)]), (79, [(69, .iload_n 1, 1, mi_o), (70, .iconst 1, 1, mi_o), (71, .iload_n 3, 1, mi_o), (72, .invokevirtual 363, 3, 212, 0, 9, 0, 467), (75, .istore 4, 2, mi_o), (77, .iload 4, 2, mi_o)]), (87, [(79, .aload_n 0, 1, mi_o), (80, .iload_n 1, 1, mi_o), (81, .aload_n 0, 1, mi_o), (82, .getfield 70, 3, 9, 32, 0, 0, 356), (85, .iload_n 1, 1, mi_o), (86, .iaload, 1, mi_o)]), (95, [(87, .iconst 2, 1, mi_o), (88, .invokevirtual 354, 3, 210, 0, 9, 0, 463), (91, .isub, 1, mi_o), (92, .ireturn, 1, mi_o), (93, .aload_n 0, 1, mi_o), (94, .iload_n 1, 1, mi_o)]), (100000, [(95, .iload_n 2, 1, mi_o), (96, .invokestatic 357, 3, 208, 0, 9, 0, 465), (99, .iload_n 3, 1, mi_o), (100, .invokevirtual 363, 3, 212, 0, 9, 0, 467), (103, .ireturn, 1, mi_o)])]
noncomputable def mi_c212 : List (Nat × mi_I) := ft_flat ft_212
noncomputable def ft_213 : List (Nat × List (Nat × mi_I)) := [(43, [(0, .iload_n 2, 1, mi_o), (1, .lookupswitch 102 #[(0, 35), (5, 70), (7, 86)], 35, mi_o), (36, .aload_n 0, 1, mi_o), (37, .iconst 2, 1, mi_o), (38, .invokevirtual 351, 3, 209, 0, 9, 0, 464), (41, .aload_n 0, 1, mi_o), (42, .iload_n 1, 1, mi_o)]), (55, [(43, .aload_n 0, 1, mi_o), (44, .getfield 70, 3, 9, 32, 0, 0, 356), (47, .iload_n 1, 1, mi_o), (48, .iaload, 1, mi_o), (49, .iload_n 3, 1, mi_o), (50, .invokevirtual 360, 3, 211, 0, 9, 0, 466), (53, .istore 4, 2, mi_o)]), (65, [(55, .iload 4, 2, mi_o), (57, .aload_n 0, 1, mi_o), (58, .iload_n 1, 1, mi_o), (59, .aload_n 0, 1, mi_o), (60, .getfield 70, 3, 9, 32, 0, 0, 356), (63, .iload_n 1, 1, mi_o), (64, .iaload, 1, mi_o)]), (77, [(65, .iconst 1, 1, mi_o), (66, .invokevirtual 363, 3, 212, 0, 9, 0, 467), (69, .isub, 1, mi_o), (70, .ireturn, 1, mi_o), (71, .aload_n 0, 1, mi_o), (72, .bipush 60, 2, mi_o), (74, .invokevirtual 351, 3, 209, 0, 9, 0, 464)]), (86, [(77, .aload_n 0, 1, mi_o), (78, .iload_n 1, 1, mi_o), (79, .iconst 3, 1, mi_o), (80, .iload_n 3, 1, mi_o), (81, .invokevirtual 366, 3, 213, 0, 9, 0, 468), (84, .iconst 5, 1, mi_o), (85, .ixor, 1, mi_o)]), (96, [(86, .ireturn, 1, mi_o), (87, .aload_n 0, 1, mi_o), (88, .bipush 81, 2, mi_o), (90, .invokevirtual 351, 3, 209, 0, 9, 0, 464), (93, .aload_n 0, 1, mi_o), (94, .iload_n 1, 1, mi_o), (95, .iconst 4, 1, mi_o)]), (105, [(96, .iload_n 3, 1, mi_o), (97, .invokevirtual 366, 3, 213, 0, 9, 0, 468), (100, .iconst 1, 1, mi_o), (101, .isub, 1, mi_o), (102, .ireturn, 1, mi_o), (103, .aload_n 0, 1, mi_o), (104, .iload_n 1, 1, mi_o)]), (100000, [(105, .iload_n 2, 1, mi_o), (106, .invokestatic 357, 3, 208, 0, 9, 0, 465), (109, .iload_n 3, 1, mi_o), (110, .invokevirtual 366, 3, 213, 0, 9, 0, 468), (113, .ireturn, 1, mi_o)])]
noncomputable def mi_c213 : List (Nat × mi_I) := ft_flat ft_213
noncomputable def ft_214 : List (Nat × List (Nat × mi_I)) := [(10, [(0, .iload_n 1, 1, mi_o), (1, .iconst 0, 1, mi_o), (2, .bipush 7, 2, mi_o), (4, .invokestatic 119, 3, 131, 0, 9, 0, 379), (7, .ifCond .ne 5, 3, mi_o)]), (18, [(10, .iconst (-1), 1, mi_o), (11, .ireturn, 1, mi_o), (12, .aload_n 0, 1, mi_o), (13, .getfield 369, 3, 9, 31, 0, 0, 355), (16, .bipush 50, 2, mi_o)]), (28, [(18, .if_icmp .ne 6, 3, mi_o), (21, .bipush (-3), 2, mi_o), (23, .ireturn, 1, mi_o), (24, .aload_n 0, 1, mi_o), (25, .getfield 70, 3, 9, 32, 0, 0, 356)]), (35, [(28, .aload_n 0, 1, mi_o), (29, .getfield 369, 3, 9, 31, 0, 0, 355), (32, .iload_n 1, 1, mi_o), (33, .iastore, 1, mi_o), (34, .aload_n 0, 1, mi_o)]), (42, [(35, .dup, 1, mi_o), (36, .getfield 369, 3, 9, 31, 0, 0, 355), (39, .dup_x1, 1, mi_o), (40, .iconst 1, 1, mi_o), (41, .iadd, 1, mi_o)]), (100000, [(42, .putfield 369, 3, 9, 31, 0, 0, 355), (45, .ireturn, 1, mi_o)])]
noncomputable def mi_c214 : List (Nat × mi_I) := ft_flat ft_214
noncomputable def ft_215 : List (Nat × List (Nat × mi_I)) := [(11, [(0, .aload_n 0, 1, mi_o), (1, .iconst 0, 1, mi_o), (2, .putfield 348, 3, 9, 33, 0, 0, 357), (5, .iload_n 1, 1, mi_o), (6, .iconst 0, 1, mi_o), (7, .aload_n 0, 1, mi_o), (8, .getfield 369, 3, 9, 31, 0, 0, 355)]), (22, [(11, .iconst 1, 1, mi_o), (12, .isub, 1, mi_o), (13, .invokestatic 119, 3, 131, 0, 9, 0, 379), (16, .ifCond .eq 12, 3, mi_o), (19, .iload_n 2, 1, mi_o), (20, .iconst 0, 1, mi_o), (21, .iconst 3, 1, mi_o)]), (35, [(22, .invokestatic 119, 3, 131, 0, 9, 0, 379), (25, .ifCond .ne 5, 3, mi_o), (28, .iconst 0, 1, mi_o), (29, .ireturn, 1, mi_o), (30, .aload_n 0, 1, mi_o), (31, .getfield 70, 3, 9, 32, 0, 0, 356), (34, .iload_n 1, 1, mi_o)]), (46, [(35, .iaload, 1, mi_o), (36, .istore 4, 2, mi_o), (38, .iload_n 2, 1, mi_o), (39, .ifCond .ne 14, 3, mi_o), (42, .aload_n 0, 1, mi_o), (43, .iload_n 1, 1, mi_o), (44, .iload 4, 2, mi_o)]), (59, [(46, .iload_n 3, 1, mi_o), (47, .invokevirtual 354, 3, 210, 0, 9, 0, 463), (50, .goto 43, 3, mi_o), (53, .iload_n 2, 1, mi_o), (54, .iconst 1, 1, mi_o), (55, .if_icmp .ne 14, 3, mi_o), (58, .aload_n 0, 1, mi_o)]), (71, [(59, .iload_n 1, 1, mi_o), (60, .iload 4, 2, mi_o), (62, .iload_n 3, 1, mi_o), (63, .invokevirtual 360, 3, 211, 0, 9, 0, 466), (66, .goto 27, 3, mi_o), (69, .iload_n 2, 1, mi_o), (70, .iconst 2, 1, mi_o)]), (85, [(71, .if_icmp .ne 14, 3, mi_o), (74, .aload_n 0, 1, mi_o), (75, .iload_n 1, 1, mi_o), (76, .iload 4, 2, mi_o), (78, .iload_n 3, 1, mi_o), (79, .invokevirtual 363, 3, 212, 0, 9, 0, 467), (82, .goto 11, 3, mi_o)]), (100000, [(85, .aload_n 0, 1, mi_o), (86, .iload_n 1, 1, mi_o), (87, .iload 4, 2, mi_o), (89, .iload_n 3, 1, mi_o), (90, .invokevirtual 366, 3, 213, 0, 9, 0, 468), (93, .ireturn, 1, mi_o)])]
noncomputable def mi_c215 : List (Nat × mi_I) := ft_flat ft_215
noncomputable def ft_216 : List (Nat × List (Nat × mi_I)) := [(5, [(0, .iload_n 1, 1, mi_o), (1, .iconst 0, 1, mi_o), (2, .bipush 24, 2, mi_o), (4, .aload_n 0, 1, mi_o)]), (13, [(5, .getfield 348, 3, 9, 33, 0, 0, 357), (8, .invokestatic 230, 3, 0, 0, 15, 0, 417), (11, .iconst 1, 1, mi_o), (12, .isub, 1, mi_o)]), (23, [(13, .invokestatic 119, 3, 131, 0, 9, 0, 379), (16, .ifCond .eq 12, 3, mi_o), (19, .aload_n 0, 1, mi_o), (20, .getfield 73, 3, 9, 34, 0, 0, 358)]), (29, [(23, .iload_n 1, 1, mi_o), (24, .iaload, 1, mi_o), (25, .goto 4, 3, mi_o), (28, .iconst (-1), 1, mi_o)]), (100000, [(29, .ireturn, 1, mi_o)])]
noncomputable def mi_c216 : List (Nat × mi_I) := ft_flat ft_216
noncomputable def ft_217 : List (Nat × List (Nat × mi_I)) := [(9, [(0, .iload_n 1, 1, mi_o), (1, .invokestatic 127, 3, 133, 0, 9, 0, 382), (4, .ifCond .eq 17, 3, mi_o), (7, .iload_n 2, 1, mi_o), (8, .iconst (-1), 1, mi_o)]), (18, [(9, .aload_n 0, 1, mi_o), (10, .getfield 369, 3, 9, 31, 0, 0, 355), (13, .iconst 1, 1, mi_o), (14, .isub, 1, mi_o), (15, .invokestatic 119, 3, 131, 0, 9, 0, 379)]), (27, [(18, .ifCond .ne 5, 3, mi_o), (21, .iconst (-1), 1, mi_o), (22, .ireturn, 1, mi_o), (23, .aload_n 0, 1, mi_o), (24, .getfield 76, 3, 9, 35, 0, 0, 359)]), (36, [(27, .iload_n 1, 1, mi_o), (28, .iload_n 2, 1, mi_o), (29, .ifCond .ge 7, 3, mi_o), (32, .iconst (-1), 1, mi_o), (33, .goto 7, 3, mi_o)]), (42, [(36, .bipush 10, 2, mi_o), (38, .iload_n 2, 1, mi_o), (39, .iadd, 1, mi_o), (40, .iastore, 1, mi_o), (41, .aload_n 0, 1, mi_o)]), (49, [(42, .getfield 79, 3, 9, 36, 0, 0, 360), (45, .iload_n 1, 1, mi_o), (46, .iconst 0, 1, mi_o), (47, .iastore, 1, mi_o), (48, .iconst 1, 1, mi_o)]), (100000, [(49, .ireturn, 1, mi_o)])]
noncomputable def mi_c217 : List (Nat × mi_I) := ft_flat ft_217
noncomputable def ft_218 : List (Nat × List (Nat × mi_I)) := [(10, [(0, .iload_n 1, 1, mi_o), (1, .invokestatic 127, 3, 133, 0, 9, 0, 382), (4, .ifCond .eq 18, 3, mi_o), (7, .iload_n 2, 1, mi_o), (8, .iconst 0, 1, mi_o), (9, .iconst 4, 1, mi_o)]), (23, [(10, .invokestatic 119, 3, 131, 0, 9, 0, 379), (13, .ifCond .eq 9, 3, mi_o), (16, .iload_n 3, 1, mi_o), (17, .bipush 60, 2, mi_o), (19, .if_icmp .le 5, 3, mi_o), (22, .iconst (-1), 1, mi_o)]), (32, [(23, .ireturn, 1, mi_o), (24, .iload_n 3, 1, mi_o), (25, .ifCond .ge 6, 3, mi_o), (28, .bipush (-14), 2, mi_o), (30, .ireturn, 1, mi_o), (31, .aload_n 0, 1, mi_o)]), (42, [(32, .getfield 76, 3, 9, 35, 0, 0, 359), (35, .iload_n 1, 1, mi_o), (36, .iload_n 2, 1, mi_o), (37, .iastore, 1, mi_o), (38, .aload_n 0, 1, mi_o), (39, .getfield 79, 3, 9, 36, 0, 0, 360)]), (50, [(42, .iload_n 1, 1, mi_o), (43, .iload_n 3, 1, mi_o), (44, .iastore, 1, mi_o), (45, .iconst 0, 1, mi_o), (46, .istore 4, 2, mi_o), (48, .iload 4, 2, mi_o)]), (62, [(50, .bipush 60, 2, mi_o), (52, .if_icmp .ge 22, 3, mi_o), (55, .aload_n 0, 1, mi_o), (56, .getfield 82, 3, 9, 37, 0, 0, 361), (59, .bipush 60, 2, mi_o), (61, .iload_n 1, 1, mi_o)]), (71, [(62, .imul, 1, mi_o), (63, .iload 4, 2, mi_o), (65, .iadd, 1, mi_o), (66, .lconst 0, 1, mi_o), (67, .lastore, 1, mi_o), (68, .iinc 4 1, 3, mi_o)]), (100000, [(71, .goto (-23), 3, mi_o), (74, .iconst 1, 1, mi_o), (75, .ireturn, 1, mi_o)])]
noncomputable def mi_c218 : List (Nat × mi_I) := ft_flat ft_218
noncomputable def ft_219 : List (Nat × List (Nat × mi_I)) := [(6, [(0, .aload_n 0, 1, mi_o), (1, .getfield 76, 3, 9, 35, 0, 0, 359), (4, .iload_n 1, 1, mi_o), (5, .iaload, 1, mi_o)]), (100000, [(6, .iconst 0, 1, mi_o), (7, .iconst 4, 1, mi_o), (8, .invokestatic 119, 3, 131, 0, 9, 0, 379), (11, .ireturn, 1, mi_o)])]
noncomputable def mi_c219 : List (Nat × mi_I) := ft_flat ft_219
noncomputable def ft_220 : List (Nat × List (Nat × mi_I)) := [(35, [(0, .iload_n 0, 1, mi_o), (1, .tableswitch 47 0 3 #[31, 36, 41, 45], 31, mi_o), (32, .lload_n 1, 1, mi_o), (33, .l2i, 1, mi_o), (34, .i2b, 1, mi_o)]), (40, [(35, .i2l, 1, mi_o), (36, .lreturn, 1, mi_o), (37, .lload_n 1, 1, mi_o), (38, .l2i, 1, mi_o), (39, .i2s, 1, mi_o)]), (45, [(40, .i2l, 1, mi_o), (41, .lreturn, 1, mi_o), (42, .lload_n 1, 1, mi_o), (43, .l2i, 1, mi_o), (44, .i2l, 1, mi_o)]), (50, [(45, .lreturn, 1, mi_o), (46, .lload_n 1, 1, mi_o), (47, .lreturn, 1, mi_o), (48, .lload_n 1, 1, mi_o), (49, .lconst 0, 1, mi_o)]), (59, [(50, .lcmp, 1, mi_o), (51, .ifCond .eq 7, 3, mi_o), (54, .lconst 1, 1, mi_o), (55, .goto 4, 3, mi_o), (58, .lconst 0, 1, mi_o)]), (100000, [(59, .lreturn, 1, mi_o)])]
noncomputable def mi_c220 : List (Nat × mi_I) := ft_flat ft_220
noncomputable def ft_221 : List (Nat × List (Nat × mi_I)) := [(10, [(0, .iload_n 1, 1, mi_o), (1, .invokestatic 127, 3, 133, 0, 9, 0, 382), (4, .ifCond .ne 5, 3, mi_o), (7, .iconst (-1), 1, mi_o), (8, .ireturn, 1, mi_o), (9, .aload_n 0, 1, mi_o)]), (21, [(10, .getfield 76, 3, 9, 35, 0, 0, 359), (13, .iload_n 1, 1, mi_o), (14, .iaload, 1, mi_o), (15, .iconst (-1), 1, mi_o), (16, .if_icmp .ne 6, 3, mi_o), (19, .bipush (-11), 2, mi_o)]), (32, [(21, .ireturn, 1, mi_o), (22, .aload_n 0, 1, mi_o), (23, .iload_n 1, 1, mi_o), (24, .invokevirtual 372, 3, 219, 0, 9, 0, 473), (27, .ifCond .ne 6, 3, mi_o), (30, .bipush (-12), 2, mi_o)]), (40, [(32, .ireturn, 1, mi_o), (33, .iload_n 2, 1, mi_o), (34, .iconst 0, 1, mi_o), (35, .aload_n 0, 1, mi_o), (36, .getfield 79, 3, 9, 36, 0, 0, 360), (39, .iload_n 1, 1, mi_o)]), (51, [(40, .iaload, 1, mi_o), (41, .iconst 1, 1, mi_o), (42, .isub, 1, mi_o), (43, .invokestatic 119, 3, 131, 0, 9, 0, 379), (46, .ifCond .ne 6, 3, mi_o), (49, .bipush (-13), 2, mi_o)]), (60, [(51, .ireturn, 1, mi_o), (52, .aload_n 0, 1, mi_o), (53, .getfield 82, 3, 9, 37, 0, 0, 361), (56, .bipush 60, 2, mi_o), (58, .iload_n 1, 1, mi_o), (59, .imul, 1, mi_o)]), (68, [(60, .iload_n 2, 1, mi_o), (61, .iadd, 1, mi_o), (62, .aload_n 0, 1, mi_o), (63, .getfield 76, 3, 9, 35, 0, 0, 359), (66, .iload_n 1, 1, mi_o), (67, .iaload, 1, mi_o)]), (100000, [(68, .lload_n 3, 1, mi_o), (69, .invokestatic 375, 3, 220, 0, 9, 0, 474), (72, .lastore, 1, mi_o), (73, .iconst 1, 1, mi_o), (74, .ireturn, 1, mi_o)])]
noncomputable def mi_c221 : List (Nat × mi_I) := ft_flat ft_221
noncomputable def ft_222 : List (Nat × List (Nat × mi_I)) := [(9, [(0, .iload_n 1, 1, mi_o), (1, .invokestatic 127, 3, 133, 0, 9, 0, 382), (4, .ifCond .eq 41, 3, mi_o), (7, .aload_n 0, 1, mi_o), (8, .iload_n 1, 1, mi_o)]), (18, [(9, .invokevirtual 372, 3, 219, 0, 9, 0, 473), (12, .ifCond .eq 33, 3, mi_o), (15, .iload_n 2, 1, mi_o), (16, .iconst 0, 1, mi_o), (17, .aload_n 0, 1, mi_o)]), (25, [(18, .getfield 79, 3, 9, 36, 0, 0, 360), (21, .iload_n 1, 1, mi_o), (22, .iaload, 1, mi_o), (23, .iconst 1, 1, mi_o), (24, .isub, 1, mi_o)]), (37, [(25, .invokestatic 119, 3, 131, 0, 9, 0, 379), (28, .ifCond .eq 17, 3, mi_o), (31, .aload_n 0, 1, mi_o), (32, .getfield 82, 3, 9, 37, 0, 0, 361), (35, .bipush 60, 2, mi_o)]), (42, [(37, .iload_n 1, 1, mi_o), (38, .imul, 1, mi_o), (39, .iload_n 2, 1, mi_o), (40, .iadd, 1, mi_o), (41, .laload, 1, mi_o)]), (100000, [(42, .goto 6, 3, mi_o), (45, .ldc2_w 379, 3, 0, 0, 7, -9223372036854775808, 476), (48, .lreturn, 1, mi_o)])]
noncomputable def mi_c222 : List (Nat × mi_I) := ft_flat ft_222
noncomputable def ft_223 : List (Nat × List (Nat × mi_I)) := [(21, [(0, .iload_n 1, 1, mi_o), (1, .invokestatic 127, 3, 133, 0, 9, 0, 382), (4, .ifCond .eq 10, 3, mi_o), (7, .iload_n 3, 1, mi_o), (8, .invokestatic 127, 3, 133, 0, 9, 0, 382), (11, .ifCond .ne 5, 3, mi_o), (14, .iconst (-1), 1, mi_o), (15, .ireturn, 1, mi_o), (16, .aload_n 0, 1, mi_o), (17, .getfield 76, 3, 9, 35, 0, 0, 359), (20, .iload_n 1, 1, mi_o)]), (39, [(21, .iaload, 1, mi_o), (22, .iconst (-1), 1, mi_o), (23, .if_icmp .eq 13, 3, mi_o), (26, .aload_n 0, 1, mi_o), (27, .getfield 76, 3, 9, 35, 0, 0, 359), (30, .iload_n 3, 1, mi_o), (31, .iaload, 1, mi_o), (32, .iconst (-1), 1, mi_o), (33, .if_icmp .ne 6, 3, mi_o), (36, .bipush (-11), 2, mi_o), (38, .ireturn, 1, mi_o)]), (60, [(39, .aload_n 0, 1, mi_o), (40, .iload_n 1, 1, mi_o), (41, .invokevirtual 372, 3, 219, 0, 9, 0, 473), (44, .ifCond .eq 26, 3, mi_o), (47, .aload_n 0, 1, mi_o), (48, .iload_n 3, 1, mi_o), (49, .invokevirtual 372, 3, 219, 0, 9, 0, 473), (52, .ifCond .eq 18, 3, mi_o), (55, .aload_n 0, 1, mi_o), (56, .getfield 76, 3, 9, 35, 0, 0, 359), (59, .iload_n 1, 1, mi_o)]), (79, [(60, .iaload, 1, mi_o), (61, .aload_n 0, 1, mi_o), (62, .getfield 76, 3, 9, 35, 0, 0, 359), (65, .iload_n 3, 1, mi_o), (66, .iaload, 1, mi_o), (67, .if_icmp .eq 6, 3, mi_o), (70, .bipush (-12), 2, mi_o), (72, .ireturn, 1, mi_o), (73, .iload 5, 2, mi_o), (75, .ifCond .lt 47, 3, mi_o), (78, .iload_n 2, 1, mi_o)]), (98, [(79, .ifCond .lt 43, 3, mi_o), (82, .iload 4, 2, mi_o), (84, .ifCond .lt 38, 3, mi_o), (87, .iload_n 2, 1, mi_o), (88, .i2l, 1, mi_o), (89, .iload 5, 2, mi_o), (91, .i2l, 1, mi_o), (92, .ladd, 1, mi_o), (93, .aload_n 0, 1, mi_o), (94, .getfield 79, 3, 9, 36, 0, 0, 360), (97, .iload_n 1, 1, mi_o)]), (115, [(98, .iaload, 1, mi_o), (99, .i2l, 1, mi_o), (100, .lcmp, 1, mi_o), (101, .ifCond .gt 21, 3, mi_o), (104, .iload 4, 2, mi_o), (106, .i2l, 1, mi_o), (107, .iload 5, 2, mi_o), (109, .i2l, 1, mi_o), (110, .ladd, 1, mi_o), (111, .aload_n 0, 1, mi_o), (112, .getfield 79, 3, 9, 36, 0, 0, 360)]), (131, [(115, .iload_n 3, 1, mi_o), (116, .iaload, 1, mi_o), (117, .i2l, 1, mi_o), (118, .lcmp, 1, mi_o), (119, .ifCond .le 6, 3, mi_o), (122, .bipush (-13), 2, mi_o), (124, .ireturn, 1, mi_o), (125, .iload_n 1, 1, mi_o), (126, .iload_n 3, 1, mi_o), (127, .if_icmp .ne 58, 3, mi_o), (130, .iload_n 2, 1, mi_o)]), (153, [(131, .iload 4, 2, mi_o), (133, .if_icmp .ge 52, 3, mi_o), (136, .iload 5, 2, mi_o), (138, .iconst 1, 1, mi_o), (139, .isub, 1, mi_o), (140, .istore 6, 2, mi_o), (142, .iload 6, 2, mi_o), (144, .ifCond .lt 38, 3, mi_o), (147, .aload_n 0, 1, mi_o), (148, .getfield 82, 3, 9, 37, 0, 0, 361), (151, .bipush 60, 2, mi_o)]), (169, [(153, .iload_n 3, 1, mi_o), (154, .imul, 1, mi_o), (155, .iload 4, 2, mi_o), (157, .iadd, 1, mi_o), (158, .iload 6, 2, mi_o), (160, .iadd, 1, mi_o), (161, .aload_n 0, 1, mi_o), (162, .getfield 82, 3, 9, 37, 0, 0, 361), (165, .bipush 60, 2, mi_o), (167, .iload_n 1, 1, mi_o), (168, .imul, 1, mi_o)]), (188, [(169, .iload_n 2, 1, mi_o), (170, .iadd, 1, mi_o), (171, .iload 6, 2, mi_o), (173, .iadd, 1, mi_o), (174, .laload, 1, mi_o), (175, .lastore, 1, mi_o), (176, .iinc 6 (-1), 3, mi_o), (179, .goto (-37), 3, mi_o), (182, .goto 48, 3, mi_o), (185, .iconst 0, 1, mi_o), (186, .istore 6, 2, mi_o)]), (208, [(188, .iload 6, 2, mi_o), (190, .iload 5, 2, mi_o), (192, .if_icmp .ge 38, 3, mi_o), (195, .aload_n 0, 1, mi_o), (196, .getfield 82, 3, 9, 37, 0, 0, 361), (199, .bipush 60, 2, mi_o), (201, .iload_n 3, 1, mi_o), (202, .imul, 1, mi_o), (203, .iload 4, 2, mi_o), (205, .iadd, 1, mi_o), (206, .iload 6, 2, mi_o)]), (223, [(208, .iadd, 1, mi_o), (209, .aload_n 0, 1, mi_o), (210, .getfield 82, 3, 9, 37, 0, 0, 361), (213, .bipush 60, 2, mi_o), (215, .iload_n 1, 1, mi_o), (216, .imul, 1, mi_o), (217, .iload_n 2, 1, mi_o), (218, .iadd, 1, mi_o), (219, .iload 6, 2, mi_o), (221, .iadd, 1, mi_o), (222, .laload, 1, mi_o)]), (100000, [(223, .lastore, 1, mi_o), (224, .iinc 6 1, 3, mi_o), (227, .goto (-39), 3, mi_o), (230, .iload 5, 2, mi_o), (232, .ireturn, 1, mi_o)])]
noncomputable def mi_c223 : List (Nat × mi_I) := ft_flat ft_223
noncomputable def ft_224 : List (Nat × List (Nat × mi_I)) := [(14, [(0, .iload_n 1, 1, mi_o), (1, .invokestatic 127, 3, 133, 0, 9, 0, 382), (4, .ifCond .eq 13, 3, mi_o), (7, .iload_n 2, 1, mi_o), (8, .iconst 0, 1, mi_o), (9, .bipush 7, 2, mi_o), (11, .invokestatic 119, 3, 131, 0, 9, 0, 379)]), (25, [(14, .ifCond .ne 5, 3, mi_o), (17, .iconst (-1), 1, mi_o), (18, .ireturn, 1, mi_o), (19, .aload_n 0, 1, mi_o), (20, .getfield 76, 3, 9, 35, 0, 0, 359), (23, .iload_n 1, 1, mi_o), (24, .iaload, 1, mi_o)]), (37, [(25, .iconst (-1), 1, mi_o), (26, .if_icmp .ne 6, 3, mi_o), (29, .bipush (-11), 2, mi_o), (31, .ireturn, 1, mi_o), (32, .aload_n 0, 1, mi_o), (33, .iload_n 1, 1, mi_o), (34, .invokevirtual 372, 3, 219, 0, 9, 0, 473)]), (51, [(37, .ifCond .eq 6, 3, mi_o), (40, .bipush (-12), 2, mi_o), (42, .ireturn, 1, mi_o), (43, .aload_n 0, 1, mi_o), (44, .getfield 70, 3, 9, 32, 0, 0, 356), (47, .aload_n 0, 1, mi_o), (48, .getfield 76, 3, 9, 35, 0, 0, 359)]), (59, [(51, .iload_n 1, 1, mi_o), (52, .iaload, 1, mi_o), (53, .bipush 10, 2, mi_o), (55, .isub, 1, mi_o), (56, .iaload, 1, mi_o), (57, .istore_n 3, 1, mi_o), (58, .iload_n 3, 1, mi_o)]), (74, [(59, .istore 4, 2, mi_o), (61, .iload 4, 2, mi_o), (63, .iload_n 2, 1, mi_o), (64, .if_icmp .eq 18, 3, mi_o), (67, .iload 4, 2, mi_o), (69, .ifCond .le 13, 3, mi_o), (72, .iload 4, 2, mi_o)]), (89, [(74, .invokestatic 357, 3, 208, 0, 9, 0, 465), (77, .istore 4, 2, mi_o), (79, .goto (-18), 3, mi_o), (82, .iload 4, 2, mi_o), (84, .iload_n 2, 1, mi_o), (85, .if_icmp .ne 7, 3, mi_o), (88, .iload_n 3, 1, mi_o)]), (100000, [(89, .goto 5, 3, mi_o), (92, .bipush (-12), 2, mi_o), (94, .ireturn, 1, mi_o)])]
noncomputable def mi_c224 : List (Nat × mi_I) := ft_flat ft_224
noncomputable def ft_225 : List (Nat × List (Nat × mi_I)) := [(44, [(0, .iload_n 1, 1, mi_o), (1, .tableswitch 72 0 5 #[39, 44, 52, 57, 62, 67], 39, mi_o), (40, .aload_n 0, 1, mi_o), (41, .getfield 116, 3, 9, 0, 0, 0, 324)]), (51, [(44, .ireturn, 1, mi_o), (45, .aload_n 0, 1, mi_o), (46, .getfield 22, 3, 9, 4, 0, 0, 328), (49, .bipush 18, 2, mi_o)]), (57, [(51, .iaload, 1, mi_o), (52, .ireturn, 1, mi_o), (53, .aload_n 0, 1, mi_o), (54, .getfield 160, 3, 9, 5, 0, 0, 329)]), (63, [(57, .ireturn, 1, mi_o), (58, .aload_n 0, 1, mi_o), (59, .getfield 154, 3, 9, 29, 0, 0, 353), (62, .ireturn, 1, mi_o)]), (69, [(63, .aload_n 0, 1, mi_o), (64, .getfield 369, 3, 9, 31, 0, 0, 355), (67, .ireturn, 1, mi_o), (68, .aload_n 0, 1, mi_o)]), (100000, [(69, .getfield 348, 3, 9, 33, 0, 0, 357), (72, .ireturn, 1, mi_o), (73, .iconst (-1), 1, mi_o), (74, .ireturn, 1, mi_o)])]
noncomputable def mi_c225 : List (Nat × mi_I) := ft_flat ft_225
noncomputable def ft_226 : List (Nat × List (Nat × mi_I)) := [(8, [(0, .iload_n 0, 1, mi_o), (1, .iload_n 0, 1, mi_o), (2, .iconst 1, 1, mi_o), (3, .iushr, 1, mi_o), (4, .ldc_w 265, 3, 0, 0, 6, 1431655765, 248), (7, .iand, 1, mi_o)]), (16, [(8, .isub, 1, mi_o), (9, .istore_n 0, 1, mi_o), (10, .iload_n 0, 1, mi_o), (11, .ldc_w 266, 3, 0, 0, 6, 858993459, 249), (14, .iand, 1, mi_o), (15, .iload_n 0, 1, mi_o)]), (24, [(16, .iconst 2, 1, mi_o), (17, .iushr, 1, mi_o), (18, .ldc_w 266, 3, 0, 0, 6, 858993459, 249), (21, .iand, 1, mi_o), (22, .iadd, 1, mi_o), (23, .istore_n 0, 1, mi_o)]), (32, [(24, .iload_n 0, 1, mi_o), (25, .iload_n 0, 1, mi_o), (26, .iconst 4, 1, mi_o), (27, .iushr, 1, mi_o), (28, .iadd, 1, mi_o), (29, .ldc_w 267, 3, 0, 0, 6, 252645135, 250)]), (39, [(32, .iand, 1, mi_o), (33, .istore_n 0, 1, mi_o), (34, .iload_n 0, 1, mi_o), (35, .iload_n 0, 1, mi_o), (36, .bipush 8, 2, mi_o), (38, .iushr, 1, mi_o)]), (46, [(39, .iadd, 1, mi_o), (40, .istore_n 0, 1, mi_o), (41, .iload_n 0, 1, mi_o), (42, .iload_n 0, 1, mi_o), (43, .bipush 16, 2, mi_o), (45, .iushr, 1, mi_o)]), (100000, [(46, .iadd, 1, mi_o), (47, .istore_n 0, 1, mi_o), (48, .iload_n 0, 1, mi_o), (49, .bipush 63, 2, mi_o), (51, .iand, 1, mi_o), (52, .ireturn, 1, mi_o)])]
noncomputable def mi_c226 : List (Nat × mi_I) := ft_flat ft_226
noncomputable def ft_227 : List (Nat × List (Nat × mi_I)) := [(6, [(0, .aload_n 0, 1, mi_o), (1, .getfield 9, 3, 100, 1, 13, 0, 481), (4, .arraylength, 1, mi_o), (5, .aload_n 0, 1, mi_o)]), (100000, [(6, .invokevirtual 335, 3, 230, 0, 9, 0, 32), (9, .ishr, 1, mi_o), (10, .ireturn, 1, mi_o)])]
noncomputable def mi_c227 : List (Nat × mi_I) := ft_flat ft_227
noncomputable def ft_228 : List (Nat × List (Nat × mi_I)) := [(6, [(0, .aload_n 0, 1, mi_o), (1, .iload_n 1, 1, mi_o), (2, .iconst 0, 1, mi_o), (3, .invokevirtual 633, 3, 229, 0, 9, 0, 191)]), (100000, [(6, .ireturn, 1, mi_o)])]
noncomputable def mi_c228 : List (Nat × mi_I) := ft_flat ft_228
noncomputable def ft_229 : List (Nat × List (Nat × mi_I)) := [(8, [(0, .aload_n 0, 1, mi_o), (1, .invokevirtual 492, 3, 231, 0, 9, 0, 192), (4, .ifCond .eq 19, 3, mi_o), (7, .aload_n 0, 1, mi_o)]), (14, [(8, .getfield 9, 3, 100, 1, 13, 0, 481), (11, .iload_n 1, 1, mi_o), (12, .iload_n 2, 1, mi_o), (13, .aload_n 0, 1, mi_o)]), (24, [(14, .invokevirtual 505, 3, 227, 0, 9, 0, 193), (17, .invokestatic 637, 3, 233, 0, 9, 0, 194), (20, .goto 16, 3, mi_o), (23, .aload_n 0, 1, mi_o)]), (30, [(24, .getfield 9, 3, 100, 1, 13, 0, 481), (27, .iload_n 1, 1, mi_o), (28, .iload_n 2, 1, mi_o), (29, .aload_n 0, 1, mi_o)]), (100000, [(30, .invokevirtual 505, 3, 227, 0, 9, 0, 193), (36, .ireturn, 1, mi_o)])]
noncomputable def mi_c229 : List (Nat × mi_I) := ft_flat ft_229
noncomputable def ft_230 : List (Nat × List (Nat × mi_I)) := [(10, [(0, .getstatic 38, 3, 0, 0, 1, 0, 33), (3, .ifCond .eq 10, 3, mi_o), (6, .aload_n 0, 1, mi_o), (7, .getfield 15, 3, 100, 0, 13, 0, 482)]), (100000, [(10, .goto 4, 3, mi_o), (13, .iconst 1, 1, mi_o), (14, .ireturn, 1, mi_o)])]
noncomputable def mi_c230 : List (Nat × mi_I) := ft_flat ft_230
noncomputable def ft_231 : List (Nat × List (Nat × mi_I)) := [(10, [(0, .getstatic 38, 3, 0, 0, 1, 0, 33), (3, .ifCond .eq 14, 3, mi_o), (6, .aload_n 0, 1, mi_o), (7, .getfield 15, 3, 100, 0, 13, 0, 482)]), (18, [(10, .ifCond .ne 7, 3, mi_o), (13, .iconst 1, 1, mi_o), (14, .goto 4, 3, mi_o), (17, .iconst 0, 1, mi_o)]), (100000, [(18, .ireturn, 1, mi_o)])]
noncomputable def mi_c231 : List (Nat × mi_I) := ft_flat ft_231
noncomputable def ft_232 : List (Nat × List (Nat × mi_I)) := [(8, [(0, .iload_n 0, 1, mi_o), (1, .ifCond .lt 14, 3, mi_o), (4, .iload_n 0, 1, mi_o), (5, .sipush 255, 3, mi_o)]), (16, [(8, .if_icmp .gt 7, 3, mi_o), (11, .iconst 1, 1, mi_o), (12, .goto 4, 3, mi_o), (15, .iconst 0, 1, mi_o)]), (100000, [(16, .ireturn, 1, mi_o)])]
noncomputable def mi_c232 : List (Nat × mi_I) := ft_flat ft_232
noncomputable def ft_233 : List (Nat × List (Nat × mi_I)) := [(9, [(0, .iload_n 1, 1, mi_o), (1, .invokestatic 88, 3, 232, 0, 9, 0, 195), (4, .ifCond .ne 5, 3, mi_o), (7, .iconst (-1), 1, mi_o), (8, .ireturn, 1, mi_o)]), (16, [(9, .iload_n 2, 1, mi_o), (10, .iconst 0, 1, mi_o), (11, .invokestatic 92, 3, 0, 0, 14, 0, 196), (14, .istore_n 2, 1, mi_o), (15, .iload_n 3, 1, mi_o)]), (23, [(16, .aload_n 0, 1, mi_o), (17, .arraylength, 1, mi_o), (18, .invokestatic 38, 3, 0, 0, 15, 0, 197), (21, .istore_n 3, 1, mi_o), (22, .iload_n 2, 1, mi_o)]), (30, [(23, .iload_n 3, 1, mi_o), (24, .if_icmp .lt 5, 3, mi_o), (27, .iconst (-1), 1, mi_o), (28, .ireturn, 1, mi_o), (29, .aload_n 0, 1, mi_o)]), (100000, [(30, .iload_n 1, 1, mi_o), (31, .iload_n 2, 1, mi_o), (32, .iload_n 3, 1, mi_o), (33, .invokestatic 95, 3, 234, 0, 9, 0, 198), (36, .ireturn, 1, mi_o)])]
noncomputable def mi_c233 : List (Nat × mi_I) := ft_flat ft_233
noncomputable def ft_234 : List (Nat × List (Nat × mi_I)) := [(5, [(0, .iload_n 1, 1, mi_o), (1, .i2b, 1, mi_o), (2, .istore 4, 2, mi_o), (4, .iload_n 2, 1, mi_o)]), (13, [(5, .istore 5, 2, mi_o), (7, .iload 5, 2, mi_o), (9, .iload_n 3, 1, mi_o), (10, .if_icmp .ge 21, 3, mi_o)]), (19, [(13, .aload_n 0, 1, mi_o), (14, .iload 5, 2, mi_o), (16, .baload, 1, mi_o), (17, .iload 4, 2, mi_o)]), (28, [(19, .if_icmp .ne 6, 3, mi_o), (22, .iload 5, 2, mi_o), (24, .ireturn, 1, mi_o), (25, .iinc 5 1, 3, mi_o)]), (100000, [(28, .goto (-21), 3, mi_o), (31, .iconst (-1), 1, mi_o), (32, .ireturn, 1, mi_o)])]
noncomputable def mi_c234 : List (Nat × mi_I) := ft_flat ft_234
end
section
theorem mi_czg11_0 : (mi_pokB 0 true (mi_bytes mi_h0) mi_c0 && (mi_pokB 0 false (mi_bytes mi_h1) mi_c1 && (mi_pokB 0 false (mi_bytes mi_h2) mi_c2 && (mi_pokB 0 false (mi_bytes mi_h3) mi_c3 && (mi_pokB 1 true (mi_bytes mi_h4) mi_c4 && (mi_pokB 1 false (mi_bytes mi_h5) mi_c5 && (mi_pokB 1 false (mi_bytes mi_h6) mi_c6 && (mi_pokB 2 true (mi_bytes mi_h7) mi_c7 && (mi_pokB 2 false (mi_bytes mi_h8) mi_c8 && (mi_pokB 2 false (mi_bytes mi_h9) mi_c9 && (mi_pokB 2 false (mi_bytes mi_h10) mi_c10 && (mi_pokB 2 false (mi_bytes mi_h11) mi_c11)))))))))))) = true := by decide +kernel
theorem mi_cz0_ : mi_pokB 0 true (mi_bytes mi_h0) mi_c0 = true := mi_b1 mi_czg11_0
theorem mi_cz1_ : mi_pokB 0 false (mi_bytes mi_h1) mi_c1 = true := mi_b1 (mi_b2 mi_czg11_0)
theorem mi_cz2_ : mi_pokB 0 false (mi_bytes mi_h2) mi_c2 = true := mi_b1 (mi_b2 (mi_b2 mi_czg11_0))
theorem mi_cz3_ : mi_pokB 0 false (mi_bytes mi_h3) mi_c3 = true := mi_b1 (mi_b2 (mi_b2 (mi_b2 mi_czg11_0)))
theorem mi_cz4_ : mi_pokB 1 true (mi_bytes mi_h4) mi_c4 = true := mi_b1 (mi_b2 (mi_b2 (mi_b2 (mi_b2 mi_czg11_0))))
theorem mi_cz5_ : mi_pokB 1 false (mi_bytes mi_h5) mi_c5 = true := mi_b1 (mi_b2 (mi_b2 (mi_b2 (mi_b2 (mi_b2 mi_czg11_0)))))
theorem mi_cz6_ : mi_pokB 1 false (mi_bytes mi_h6) mi_c6 = true := mi_b1 (mi_b2 (mi_b2 (mi_b2 (mi_b2 (mi_b2 (mi_b2 mi_czg11_0))))))
theorem mi_cz7_ : mi_pokB 2 true (mi_bytes mi_h7) mi_c7 = true := mi_b1 (mi_b2 (mi_b2 (mi_b2 (mi_b2 (mi_b2 (mi_b2 (mi_b2 mi_czg11_0)))))))
theorem mi_cz8_ : mi_pokB 2 false (mi_bytes mi_h8) mi_c8 = true := mi_b1 (mi_b2 (mi_b2 (mi_b2 (mi_b2 (mi_b2 (mi_b2 (mi_b2 (mi_b2 mi_czg11_0))))))))
theorem mi_cz9_ : mi_pokB 2 false (mi_bytes mi_h9) mi_c9 = true := mi_b1 (mi_b2 (mi_b2 (mi_b2 (mi_b2 (mi_b2 (mi_b2 (mi_b2 (mi_b2 (mi_b2 mi_czg11_0)))))))))
theorem mi_cz10_ : mi_pokB 2 false (mi_bytes mi_h10) mi_c10 = true := mi_b1 (mi_b2 (mi_b2 (mi_b2 (mi_b2 (mi_b2 (mi_b2 (mi_b2 (mi_b2 (mi_b2 (mi_b2 mi_czg11_0))))))))))
theorem mi_cz11_ : mi_pokB 2 false (mi_bytes mi_h11) mi_c11 = true := mi_b2 (mi_b2 (mi_b2 (mi_b2 (mi_b2 (mi_b2 (mi_b2 (mi_b2 (mi_b2 (mi_b2 (mi_b2 mi_czg11_0))))))))))
theorem mi_czg11_1 : (mi_pokB 2 false (mi_bytes mi_h12) mi_c12 && (mi_pokB 2 false (mi_bytes mi_h13) mi_c13 && (mi_pokB 2 false (mi_bytes mi_h14) mi_c14 && (mi_pokB 3 true (mi_bytes mi_h15) mi_c15 && (mi_pokB 3 false (mi_bytes mi_h16) mi_c16 && (mi_pokB 3 false (mi_bytes mi_h17) mi_c17 && (mi_pokB 3 false (mi_bytes mi_h18) mi_c18 && (mi_pokB 3 false (mi_bytes mi_h19) mi_c19 && (mi_pokB 3 false (mi_bytes mi_h20) mi_c20 && (mi_pokB 3 false (mi_bytes mi_h21) mi_c21 && (mi_pokB 3 false (mi_bytes mi_h22) mi_c22 && (mi_pokB 4 true (mi_bytes mi_h23) mi_c23)))))))))))) = true := by decide +kernel
theorem mi_cz12_ : mi_pokB 2 false (mi_bytes mi_h12) mi_c12 = true := mi_b1 mi_czg11_1
theorem mi_cz13_ : mi_pokB 2 false (mi_bytes mi_h13) mi_c13 = true := mi_b1 (mi_b2 mi_czg11_1)
theorem mi_cz14_ : mi_pokB 2 false (mi_bytes mi_h14) mi_c14 = true := mi_b1 (mi_b2 (mi_b2 mi_czg11_1))
theorem mi_cz15_ : mi_pokB 3 true (mi_bytes mi_h15) mi_c15 = true := mi_b1 (mi_b2 (mi_b2 (mi_b2 mi_czg11_1)))
theorem mi_cz16_ : mi_pokB 3 false (mi_bytes mi_h16) mi_c16 = true := mi_b1 (mi_b2 (mi_b2 (mi_b2 (mi_b2 mi_czg11_1))))
theorem mi_cz17_ : mi_pokB 3 false (mi_bytes mi_h17) mi_c17 = true := mi_b1 (mi_b2 (mi_b2 (mi_b2 (mi_b2 (mi_b2 mi_czg11_1)))))
theorem mi_cz18_ : mi_pokB 3 false (mi_bytes mi_h18) mi_c18 = true := mi_b1 (mi_b2 (mi_b2 (mi_b2 (mi_b2 (mi_b2 (mi_b2 mi_czg11_1))))))
theorem mi_cz19_ : mi_pokB 3 false (mi_bytes mi_h19) mi_c19 = true := mi_b1 (mi_b2 (mi_b2 (mi_b2 (mi_b2 (mi_b2 (mi_b2 (mi_b2 mi_czg11_1)))))))
theorem mi_cz20_ : mi_pokB 3 false (mi_bytes mi_h20) mi_c20 = true := mi_b1 (mi_b2 (mi_b2 (mi_b2 (mi_b2 (mi_b2 (mi_b2 (mi_b2 (mi_b2 mi_czg11_1))))))))
theorem mi_cz21_ : mi_pokB 3 false (mi_bytes mi_h21) mi_c21 = true := mi_b1 (mi_b2 (mi_b2 (mi_b2 (mi_b2 (mi_b2 (mi_b2 (mi_b2 (mi_b2 (mi_b2 mi_czg11_1)))))))))
theorem mi_cz22_ : mi_pokB 3 false (mi_bytes mi_h22) mi_c22 = true := mi_b1 (mi_b2 (mi_b2 (mi_b2 (mi_b2 (mi_b2 (mi_b2 (mi_b2 (mi_b2 (mi_b2 (mi_b2 mi_czg11_1))))))))))
theorem mi_cz23_ : mi_pokB 4 true (mi_bytes mi_h23) mi_c23 = true := mi_b2 (mi_b2 (mi_b2 (mi_b2 (mi_b2 (mi_b2 (mi_b2 (mi_b2 (mi_b2 (mi_b2 (mi_b2 mi_czg11_1))))))))))
theorem mi_czg11_2 : (mi_pokB 4 false (mi_bytes mi_h24) mi_c24 && (mi_pokB 4 false (mi_bytes mi_h25) mi_c25 && (mi_pokB 4 false (mi_bytes mi_h26) mi_c26 && (mi_pokB 4 false (mi_bytes mi_h27) mi_c27 && (mi_pokB 4 false (mi_bytes mi_h28) mi_c28 && (mi_pokB 4 false (mi_bytes mi_h29) mi_c29 && (mi_pokB 4 false (mi_bytes mi_h30) mi_c30 && (mi_pokB 4 false (mi_bytes mi_h31) mi_c31 && (mi_pokB 4 false (mi_bytes mi_h32) mi_c32 && (mi_pokB 4 false (mi_bytes mi_h33) mi_c33 && (mi_pokB 4 false (mi_bytes mi_h34) mi_c34 && (mi_pokB 5 true (mi_bytes mi_h35) mi_c35)))))))))))) = true := by decide +kernel
theorem mi_cz24_ : mi_pokB 4 false (mi_bytes mi_h24) mi_c24 = true := mi_b1 mi_czg11_2
theorem mi_cz25_ : mi_pokB 4 false (mi_bytes mi_h25) mi_c25 = true := mi_b1 (mi_b2 mi_czg11_2)
theorem mi_cz26_ : mi_pokB 4 false (mi_bytes mi_h26) mi_c26 = true := mi_b1 (mi_b2 (mi_b2 mi_czg11_2))
theorem mi_cz27_ : mi_pokB 4 false (mi_bytes mi_h27) mi_c27 = true := mi_b1 (mi_b2 (mi_b2 (mi_b2 mi_czg11_2)))
theorem mi_cz28_ : mi_pokB 4 false (mi_bytes mi_h28) mi_c28 = true := mi_b1 (mi_b2 (mi_b2 (mi_b2 (mi_b2 mi_czg11_2))))
theorem mi_cz29_ : mi_pokB 4 false (mi_bytes mi_h29) mi_c29 = true := mi_b1 (mi_b2 (mi_b2 (mi_b2 (mi_b2 (mi_b2 mi_czg11_2)))))
theorem mi_cz30_ : mi_pokB 4 false (mi_bytes mi_h30) mi_c30 = true := mi_b1 (mi_b2 (mi_b2 (mi_b2 (mi_b2 (mi_b2 (mi_b2 mi_czg11_2))))))
theorem mi_cz31_ : mi_pokB 4 false (mi_bytes mi_h31) mi_c31 = true := mi_b1 (mi_b2 (mi_b2 (mi_b2 (mi_b2 (mi_b2 (mi_b2 (mi_b2 mi_czg11_2)))))))
theorem mi_cz32_ : mi_pokB 4 false (mi_bytes mi_h32) mi_c32 = true := mi_b1 (mi_b2 (mi_b2 (mi_b2 (mi_b2 (mi_b2 (mi_b2 (mi_b2 (mi_b2 mi_czg11_2))))))))
theorem mi_cz33_ : mi_pokB 4 false (mi_bytes mi_h33) mi_c33 = true := mi_b1 (mi_b2 (mi_b2 (mi_b2 (mi_b2 (mi_b2 (mi_b2 (mi_b2 (mi_b2 (mi_b2 mi_czg11_2)))))))))
theorem mi_cz34_ : mi_pokB 4 false (mi_bytes mi_h34) mi_c34 = true := mi_b1 (mi_b2 (mi_b2 (mi_b2 (mi_b2 (mi_b2 (mi_b2 (mi_b2 (mi_b2 (mi_b2 (mi_b2 mi_czg11_2))))))))))
theorem mi_cz35_ : mi_pokB 5 true (mi_bytes mi_h35) mi_c35 = true := mi_b2 (mi_b2 (mi_b2 (mi_b2 (mi_b2 (mi_b2 (mi_b2 (mi_b2 (mi_b2 (mi_b2 (mi_b2 mi_czg11_2))))))))))
theorem mi_czg11_3 : (mi_pokB 5 false (mi_bytes mi_h36) mi_c36 && (mi_pokB 5 false (mi_bytes mi_h37) mi_c37 && (mi_pokB 5 false (mi_bytes mi_h38) mi_c38 && (mi_pokB 5 false (mi_bytes mi_h39) mi_c39 && (mi_pokB 5 false (mi_bytes mi_h40) mi_c40 && (mi_pokB 6 true (mi_bytes mi_h41) mi_c41 && (mi_pokB 6 false (mi_bytes mi_h42) mi_c42 && (mi_pokB 6 false (mi_bytes mi_h43) mi_c43 && (mi_pokB 6 false (mi_bytes mi_h44) mi_c44 && (mi_pokB 6 false (mi_bytes mi_h45) mi_c45 && (mi_pokB 6 false (mi_bytes mi_h46) mi_c46 && (mi_pokB 6 false (mi_bytes mi_h47) mi_c47)))))))))))) = true := by decide +kernel
theorem mi_cz36_ : mi_pokB 5 false (mi_bytes mi_h36) mi_c36 = true := mi_b1 mi_czg11_3
theorem mi_cz37_ : mi_pokB 5 false (mi_bytes mi_h37) mi_c37 = true := mi_b1 (mi_b2 mi_czg11_3)
theorem mi_cz38_ : mi_pokB 5 false (mi_bytes mi_h38) mi_c38 = true := mi_b1 (mi_b2 (mi_b2 mi_czg11_3))
theorem mi_cz39_ : mi_pokB 5 false (mi_bytes mi_h39) mi_c39 = true := mi_b1 (mi_b2 (mi_b2 (mi_b2 mi_czg11_3)))
theorem mi_cz40_ : mi_pokB 5 false (mi_bytes mi_h40) mi_c40 = true := mi_b1 (mi_b2 (mi_b2 (mi_b2 (mi_b2 mi_czg11_3))))
theorem mi_cz41_ : mi_pokB 6 true (mi_bytes mi_h41) mi_c41 = true := mi_b1 (mi_b2 (mi_b2 (mi_b2 (mi_b2 (mi_b2 mi_czg11_3)))))
theorem mi_cz42_ : mi_pokB 6 false (mi_bytes mi_h42) mi_c42 = true := mi_b1 (mi_b2 (mi_b2 (mi_b2 (mi_b2 (mi_b2 (mi_b2 mi_czg11_3))))))
theorem mi_cz43_ : mi_pokB 6 false (mi_bytes mi_h43) mi_c43 = true := mi_b1 (mi_b2 (mi_b2 (mi_b2 (mi_b2 (mi_b2 (mi_b2 (mi_b2 mi_czg11_3)))))))
theorem mi_cz44_ : mi_pokB 6 false (mi_bytes mi_h44) mi_c44 = true := mi_b1 (mi_b2 (mi_b2 (mi_b2 (mi_b2 (mi_b2 (mi_b2 (mi_b2 (mi_b2 mi_czg11_3))))))))
theorem mi_cz45_ : mi_pokB 6 false (mi_bytes mi_h45) mi_c45 = true := mi_b1 (mi_b2 (mi_b2 (mi_b2 (mi_b2 (mi_b2 (mi_b2 (mi_b2 (mi_b2 (mi_b2 mi_czg11_3)))))))))
theorem mi_cz46_ : mi_pokB 6 false (mi_bytes mi_h46) mi_c46 = true := mi_b1 (mi_b2 (mi_b2 (mi_b2 (mi_b2 (mi_b2 (mi_b2 (mi_b2 (mi_b2 (mi_b2 (mi_b2 mi_czg11_3))))))))))
theorem mi_cz47_ : mi_pokB 6 false (mi_bytes mi_h47) mi_c47 = true := mi_b2 (mi_b2 (mi_b2 (mi_b2 (mi_b2 (mi_b2 (mi_b2 (mi_b2 (mi_b2 (mi_b2 (mi_b2 mi_czg11_3))))))))))
theorem mi_czg11_4 : (mi_pokB 6 false (mi_bytes mi_h48) mi_c48 && (mi_pokB 6 false (mi_bytes mi_h49) mi_c49 && (mi_pokB 6 false (mi_bytes mi_h50) mi_c50 && (mi_pokB 6 false (mi_bytes mi_h51) mi_c51 && (mi_pokB 6 false (mi_bytes mi_h52) mi_c52 && (mi_pokB 6 false (mi_bytes mi_h53) mi_c53 && (mi_pokB 6 false (mi_bytes mi_h54) mi_c54 && (mi_pokB 6 false (mi_bytes mi_h55) mi_c55 && (mi_pokB 6 false (mi_bytes mi_h56) mi_c56 && (mi_pokB 7 true (mi_bytes mi_h57) mi_c57 && (mi_pokB 7 false (mi_bytes mi_h58) mi_c58 && (mi_pokB 7 false (mi_bytes mi_h59) mi_c59)))))))))))) = true := by decide +kernel
theorem mi_cz48_ : mi_pokB 6 false (mi_bytes mi_h48) mi_c48 = true := mi_b1 mi_czg11_4
theorem mi_cz49_ : mi_pokB 6 false (mi_bytes mi_h49) mi_c49 = true := mi_b1 (mi_b2 mi_czg11_4)
theorem mi_cz50_ : mi_pokB 6 false (mi_bytes mi_h50) mi_c50 = true := mi_b1 (mi_b2 (mi_b2 mi_czg11_4))
theorem mi_cz51_ : mi_pokB 6 false (mi_bytes mi_h51) mi_c51 = true := mi_b1 (mi_b2 (mi_b2 (mi_b2 mi_czg11_4)))
theorem mi_cz52_ : mi_pokB 6 false (mi_bytes mi_h52) mi_c52 = true := mi_b1 (mi_b2 (mi_b2 (mi_b2 (mi_b2 mi_czg11_4))))
theorem mi_cz53_ : mi_pokB 6 false (mi_bytes mi_h53) mi_c53 = true := mi_b1 (mi_b2 (mi_b2 (mi_b2 (mi_b2 (mi_b2 mi_czg11_4)))))
theorem mi_cz54_ : mi_pokB 6 false (mi_bytes mi_h54) mi_c54 = true := mi_b1 (mi_b2 (mi_b2 (mi_b2 (mi_b2 (mi_b2 (mi_b2 mi_czg11_4))))))
theorem mi_cz55_ : mi_pokB 6 false (mi_bytes mi_h55) mi_c55 = true := mi_b1 (mi_b2 (mi_b2 (mi_b2 (mi_b2 (mi_b2 (mi_b2 (mi_b2 mi_czg11_4)))))))
theorem mi_cz56_ : mi_pokB 6 false (mi_bytes mi_h56) mi_c56 = true := mi_b1 (mi_b2 (mi_b2 (mi_b2 (mi_b2 (mi_b2 (mi_b2 (mi_b2 (mi_b2 mi_czg11_4))))))))
theorem mi_cz57_ : mi_pokB 7 true (mi_bytes mi_h57) mi_c57 = true := mi_b1 (mi_b2 (mi_b2 (mi_b2 (mi_b2 (mi_b2 (mi_b2 (mi_b2 (mi_b2 (mi_b2 mi_czg11_4)))))))))
theorem mi_cz58_ : mi_pokB 7 false (mi_bytes mi_h58) mi_c58 = true := mi_b1 (mi_b2 (mi_b2 (mi_b2 (mi_b2 (mi_b2 (mi_b2 (mi_b2 (mi_b2 (mi_b2 (mi_b2 mi_czg11_4))))))))))
theorem mi_cz59_ : mi_pokB 7 false (mi_bytes mi_h59) mi_c59 = true := mi_b2 (mi_b2 (mi_b2 (mi_b2 (mi_b2 (mi_b2 (mi_b2 (mi_b2 (mi_b2 (mi_b2 (mi_b2 mi_czg11_4))))))))))
theorem mi_czg11_5 : (mi_pokB 7 false (mi_bytes mi_h60) mi_c60 && (mi_pokB 7 false (mi_bytes mi_h61) mi_c61 && (mi_pokB 7 false (mi_bytes mi_h62) mi_c62 && (mi_pokB 7 false (mi_bytes mi_h63) mi_c63 && (mi_pokB 7 false (mi_bytes mi_h64) mi_c64 && (mi_pokB 7 false (mi_bytes mi_h65) mi_c65 && (mi_pokB 7 false (mi_bytes mi_h66) mi_c66 && (mi_pokB 7 false (mi_bytes mi_h67) mi_c67 && (mi_pokB 7 false (mi_bytes mi_h68) mi_c68 && (mi_pokB 7 false (mi_bytes mi_h69) mi_c69 && (mi_pokB 7 false (mi_bytes mi_h70) mi_c70 && (mi_pokB 7 false (mi_bytes mi_h71) mi_c71)))))))))))) = true := by decide +kernel
theorem mi_cz60_ : mi_pokB 7 false (mi_bytes mi_h60) mi_c60 = true := mi_b1 mi_czg11_5
theorem mi_cz61_ : mi_pokB 7 false (mi_bytes mi_h61) mi_c61 = true := mi_b1 (mi_b2 mi_czg11_5)
theorem mi_cz62_ : mi_pokB 7 false (mi_bytes mi_h62) mi_c62 = true := mi_b1 (mi_b2 (mi_b2 mi_czg11_5))
theorem mi_cz63_ : mi_pokB 7 false (mi_bytes mi_h63) mi_c63 = true := mi_b1 (mi_b2 (mi_b2 (mi_b2 mi_czg11_5)))
theorem mi_cz64_ : mi_pokB 7 false (mi_bytes mi_h64) mi_c64 = true := mi_b1 (mi_b2 (mi_b2 (mi_b2 (mi_b2 mi_czg11_5))))
theorem mi_cz65_ : mi_pokB 7 false (mi_bytes mi_h65) mi_c65 = true := mi_b1 (mi_b2 (mi_b2 (mi_b2 (mi_b2 (mi_b2 mi_czg11_5)))))
theorem mi_cz66_ : mi_pokB 7 false (mi_bytes mi_h66) mi_c66 = true := mi_b1 (mi_b2 (mi_b2 (mi_b2 (mi_b2 (mi_b2 (mi_b2 mi_czg11_5))))))
theorem mi_cz67_ : mi_pokB 7 false (mi_bytes mi_h67) mi_c67 = true := mi_b1 (mi_b2 (mi_b2 (mi_b2 (mi_b2 (mi_b2 (mi_b2 (mi_b2 mi_czg11_5)))))))
theorem mi_cz68_ : mi_pokB 7 false (mi_bytes mi_h68) mi_c68 = true := mi_b1 (mi_b2 (mi_b2 (mi_b2 (mi_b2 (mi_b2 (mi_b2 (mi_b2 (mi_b2 mi_czg11_5))))))))
theorem mi_cz69_ : mi_pokB 7 false (mi_bytes mi_h69) mi_c69 = true := mi_b1 (mi_b2 (mi_b2 (mi_b2 (mi_b2 (mi_b2 (mi_b2 (mi_b2 (mi_b2 (mi_b2 mi_czg11_5)))))))))
theorem mi_cz70_ : mi_pokB 7 false (mi_bytes mi_h70) mi_c70 = true := mi_b1 (mi_b2 (mi_b2 (mi_b2 (mi_b2 (mi_b2 (mi_b2 (mi_b2 (mi_b2 (mi_b2 (mi_b2 mi_czg11_5))))))))))
theorem mi_cz71_ : mi_pokB 7 false (mi_bytes mi_h71) mi_c71 = true := mi_b2 (mi_b2 (mi_b2 (mi_b2 (mi_b2 (mi_b2 (mi_b2 (mi_b2 (mi_b2 (mi_b2 (mi_b2 mi_czg11_5))))))))))
end
section
theorem mi_czg12_0 : (mi_pokB 7 false (mi_bytes mi_h72) mi_c72 && (mi_pokB 7 false (mi_bytes mi_h73) mi_c73 && (mi_pokB 7 false (mi_bytes mi_h74) mi_c74 && (mi_pokB 7 false (mi_bytes mi_h75) mi_c75 && (mi_pokB 7 false (mi_bytes mi_h76) mi_c76 && (mi_pokB 7 false (mi_bytes mi_h77) mi_c77 && (mi_pokB 7 false (mi_bytes mi_h78) mi_c78 && (mi_pokB 8 true (mi_bytes mi_h79) mi_c79 && (mi_pokB 8 false (mi_bytes mi_h80) mi_c80 && (mi_pokB 8 false (mi_bytes mi_h81) mi_c81 && (mi_pokB 8 false (mi_bytes mi_h82) mi_c82 && (mi_pokB 8 false (mi_bytes mi_h83) mi_c83)))))))))))) = true := by decide +kernel
theorem mi_cz72_ : mi_pokB 7 false (mi_bytes mi_h72) mi_c72 = true := mi_b1 mi_czg12_0
theorem mi_cz73_ : mi_pokB 7 false (mi_bytes mi_h73) mi_c73 = true := mi_b1 (mi_b2 mi_czg12_0)
theorem mi_cz74_ : mi_pokB 7 false (mi_bytes mi_h74) mi_c74 = true := mi_b1 (mi_b2 (mi_b2 mi_czg12_0))
theorem mi_cz75_ : mi_pokB 7 false (mi_bytes mi_h75) mi_c75 = true := mi_b1 (mi_b2 (mi_b2 (mi_b2 mi_czg12_0)))
theorem mi_cz76_ : mi_pokB 7 false (mi_bytes mi_h76) mi_c76 = true := mi_b1 (mi_b2 (mi_b2 (mi_b2 (mi_b2 mi_czg12_0))))
theorem mi_cz77_ : mi_pokB 7 false (mi_bytes mi_h77) mi_c77 = true := mi_b1 (mi_b2 (mi_b2 (mi_b2 (mi_b2 (mi_b2 mi_czg12_0)))))
theorem mi_cz78_ : mi_pokB 7 false (mi_bytes mi_h78) mi_c78 = true := mi_b1 (mi_b2 (mi_b2 (mi_b2 (mi_b2 (mi_b2 (mi_b2 mi_czg12_0))))))
theorem mi_cz79_ : mi_pokB 8 true (mi_bytes mi_h79) mi_c79 = true := mi_b1 (mi_b2 (mi_b2 (mi_b2 (mi_b2 (mi_b2 (mi_b2 (mi_b2 mi_czg12_0)))))))
theorem mi_cz80_ : mi_pokB 8 false (mi_bytes mi_h80) mi_c80 = true := mi_b1 (mi_b2 (mi_b2 (mi_b2 (mi_b2 (mi_b2 (mi_b2 (mi_b2 (mi_b2 mi_czg12_0))))))))
theorem mi_cz81_ : mi_pokB 8 false (mi_bytes mi_h81) mi_c81 = true := mi_b1 (mi_b2 (mi_b2 (mi_b2 (mi_b2 (mi_b2 (mi_b2 (mi_b2 (mi_b2 (mi_b2 mi_czg12_0)))))))))
theorem mi_cz82_ : mi_pokB 8 false (mi_bytes mi_h82) mi_c82 = true := mi_b1 (mi_b2 (mi_b2 (mi_b2 (mi_b2 (mi_b2 (mi_b2 (mi_b2 (mi_b2 (mi_b2 (mi_b2 mi_czg12_0))))))))))
theorem mi_cz83_ : mi_pokB 8 false (mi_bytes mi_h83) mi_c83 = true := mi_b2 (mi_b2 (mi_b2 (mi_b2 (mi_b2 (mi_b2 (mi_b2 (mi_b2 (mi_b2 (mi_b2 (mi_b2 mi_czg12_0))))))))))
theorem mi_czg12_1 : (mi_pokB 8 false (mi_bytes mi_h84) mi_c84 && (mi_pokB 8 false (mi_bytes mi_h85) mi_c85 && (mi_pokB 8 false (mi_bytes mi_h86) mi_c86 && (mi_pokB 8 false (mi_bytes mi_h87) mi_c87 && (mi_pokB 8 false (mi_bytes mi_h88) mi_c88 && (mi_pokB 8 false (mi_bytes mi_h89) mi_c89 && (mi_pokB 8 false (mi_bytes mi_h90) mi_c90 && (mi_pokB 8 false (mi_bytes mi_h91) mi_c91 && (mi_pokB 8 false (mi_bytes mi_h92) mi_c92 && (mi_pokB 8 false (mi_bytes mi_h93) mi_c93 && (mi_pokB 8 false (mi_bytes mi_h94) mi_c94 && (mi_pokB 8 false (mi_bytes mi_h95) mi_c95)))))))))))) = true := by decide +kernel
theorem mi_cz84_ : mi_pokB 8 false (mi_bytes mi_h84) mi_c84 = true := mi_b1 mi_czg12_1
theorem mi_cz85_ : mi_pokB 8 false (mi_bytes mi_h85) mi_c85 = true := mi_b1 (mi_b2 mi_czg12_1)
theorem mi_cz86_ : mi_pokB 8 false (mi_bytes mi_h86) mi_c86 = true := mi_b1 (mi_b2 (mi_b2 mi_czg12_1))
theorem mi_cz87_ : mi_pokB 8 false (mi_bytes mi_h87) mi_c87 = true := mi_b1 (mi_b2 (mi_b2 (mi_b2 mi_czg12_1)))
theorem mi_cz88_ : mi_pokB 8 false (mi_bytes mi_h88) mi_c88 = true := mi_b1 (mi_b2 (mi_b2 (mi_b2 (mi_b2 mi_czg12_1))))
theorem mi_cz89_ : mi_pokB 8 false (mi_bytes mi_h89) mi_c89 = true := mi_b1 (mi_b2 (mi_b2 (mi_b2 (mi_b2 (mi_b2 mi_czg12_1)))))
theorem mi_cz90_ : mi_pokB 8 false (mi_bytes mi_h90) mi_c90 = true := mi_b1 (mi_b2 (mi_b2 (mi_b2 (mi_b2 (mi_b2 (mi_b2 mi_czg12_1))))))
theorem mi_cz91_ : mi_pokB 8 false (mi_bytes mi_h91) mi_c91 = true := mi_b1 (mi_b2 (mi_b2 (mi_b2 (mi_b2 (mi_b2 (mi_b2 (mi_b2 mi_czg12_1)))))))
theorem mi_cz92_ : mi_pokB 8 false (mi_bytes mi_h92) mi_c92 = true := mi_b1 (mi_b2 (mi_b2 (mi_b2 (mi_b2 (mi_b2 (mi_b2 (mi_b2 (mi_b2 mi_czg12_1))))))))
theorem mi_cz93_ : mi_pokB 8 false (mi_bytes mi_h93) mi_c93 = true := mi_b1 (mi_b2 (mi_b2 (mi_b2 (mi_b2 (mi_b2 (mi_b2 (mi_b2 (mi_b2 (mi_b2 mi_czg12_1)))))))))
theorem mi_cz94_ : mi_pokB 8 false (mi_bytes mi_h94) mi_c94 = true := mi_b1 (mi_b2 (mi_b2 (mi_b2 (mi_b2 (mi_b2 (mi_b2 (mi_b2 (mi_b2 (mi_b2 (mi_b2 mi_czg12_1))))))))))
theorem mi_cz95_ : mi_pokB 8 false (mi_bytes mi_h95) mi_c95 = true := mi_b2 (mi_b2 (mi_b2 (mi_b2 (mi_b2 (mi_b2 (mi_b2 (mi_b2 (mi_b2 (mi_b2 (mi_b2 mi_czg12_1))))))))))
theorem mi_czg12_2 : (mi_pokB 8 false (mi_bytes mi_h96) mi_c96 && (mi_pokB 8 false (mi_bytes mi_h97) mi_c97 && (mi_pokB 8 false (mi_bytes mi_h98) mi_c98 && (mi_pokB 8 false (mi_bytes mi_h99) mi_c99 && (mi_pokB 8 false (mi_bytes mi_h100) mi_c100 && (mi_pokB 8 false (mi_bytes mi_h101) mi_c101 && (mi_pokB 8 false (mi_bytes mi_h102) mi_c102 && (mi_pokB 8 false (mi_bytes mi_h103) mi_c103 && (mi_pokB 8 false (mi_bytes mi_h104) mi_c104 && (mi_pokB 8 false (mi_bytes mi_h105) mi_c105 && (mi_pokB 8 false (mi_bytes mi_h106) mi_c106 && (mi_pokB 8 false (mi_bytes mi_h107) mi_c107)))))))))))) = true := by decide +kernel
theorem mi_cz96_ : mi_pokB 8 false (mi_bytes mi_h96) mi_c96 = true := mi_b1 mi_czg12_2
theorem mi_cz97_ : mi_pokB 8 false (mi_bytes mi_h97) mi_c97 = true := mi_b1 (mi_b2 mi_czg12_2)
theorem mi_cz98_ : mi_pokB 8 false (mi_bytes mi_h98) mi_c98 = true := mi_b1 (mi_b2 (mi_b2 mi_czg12_2))
theorem mi_cz99_ : mi_pokB 8 false (mi_bytes mi_h99) mi_c99 = true := mi_b1 (mi_b2 (mi_b2 (mi_b2 mi_czg12_2)))
theorem mi_cz100_ : mi_pokB 8 false (mi_bytes mi_h100) mi_c100 = true := mi_b1 (mi_b2 (mi_b2 (mi_b2 (mi_b2 mi_czg12_2))))
theorem mi_cz101_ : mi_pokB 8 false (mi_bytes mi_h101) mi_c101 = true := mi_b1 (mi_b2 (mi_b2 (mi_b2 (mi_b2 (mi_b2 mi_czg12_2)))))
theorem mi_cz102_ : mi_pokB 8 false (mi_bytes mi_h102) mi_c102 = true := mi_b1 (mi_b2 (mi_b2 (mi_b2 (mi_b2 (mi_b2 (mi_b2 mi_czg12_2))))))
theorem mi_cz103_ : mi_pokB 8 false (mi_bytes mi_h103) mi_c103 = true := mi_b1 (mi_b2 (mi_b2 (mi_b2 (mi_b2 (mi_b2 (mi_b2 (mi_b2 mi_czg12_2)))))))
theorem mi_cz104_ : mi_pokB 8 false (mi_bytes mi_h104) mi_c104 = true := mi_b1 (mi_b2 (mi_b2 (mi_b2 (mi_b2 (mi_b2 (mi_b2 (mi_b2 (mi_b2 mi_czg12_2))))))))
theorem mi_cz105_ : mi_pokB 8 false (mi_bytes mi_h105) mi_c105 = true := mi_b1 (mi_b2 (mi_b2 (mi_b2 (mi_b2 (mi_b2 (mi_b2 (mi_b2 (mi_b2 (mi_b2 mi_czg12_2)))))))))
theorem mi_cz106_ : mi_pokB 8 false (mi_bytes mi_h106) mi_c106 = true := mi_b1 (mi_b2 (mi_b2 (mi_b2 (mi_b2 (mi_b2 (mi_b2 (mi_b2 (mi_b2 (mi_b2 (mi_b2 mi_czg12_2))))))))))
theorem mi_cz107_ : mi_pokB 8 false (mi_bytes mi_h107) mi_c107 = true := mi_b2 (mi_b2 (mi_b2 (mi_b2 (mi_b2 (mi_b2 (mi_b2 (mi_b2 (mi_b2 (mi_b2 (mi_b2 mi_czg12_2))))))))))
theorem mi_czg12_3 : (mi_pokB 8 false (mi_bytes mi_h108) mi_c108 && (mi_pokB 8 false (mi_bytes mi_h109) mi_c109 && (mi_pokB 8 false (mi_bytes mi_h110) mi_c110 && (mi_pokB 8 false (mi_bytes mi_h111) mi_c111 && (mi_pokB 8 false (mi_bytes mi_h112) mi_c112 && (mi_pokB 8 false (mi_bytes mi_h113) mi_c113 && (mi_pokB 8 false (mi_bytes mi_h114) mi_c114 && (mi_pokB 8 false (mi_bytes mi_h115) mi_c115 && (mi_pokB 8 false (mi_bytes mi_h116) mi_c116 && (mi_pokB 8 false (mi_bytes mi_h117) mi_c117 && (mi_pokB 8 false (mi_bytes mi_h118) mi_c118 && (mi_pokB 8 false (mi_bytes mi_h119) mi_c119)))))))))))) = true := by decide +kernel
theorem mi_cz108_ : mi_pokB 8 false (mi_bytes mi_h108) mi_c108 = true := mi_b1 mi_czg12_3
theorem mi_cz109_ : mi_pokB 8 false (mi_bytes mi_h109) mi_c109 = true := mi_b1 (mi_b2 mi_czg12_3)
theorem mi_cz110_ : mi_pokB 8 false (mi_bytes mi_h110) mi_c110 = true := mi_b1 (mi_b2 (mi_b2 mi_czg12_3))
theorem mi_cz111_ : mi_pokB 8 false (mi_bytes mi_h111) mi_c111 = true := mi_b1 (mi_b2 (mi_b2 (mi_b2 mi_czg12_3)))
theorem mi_cz112_ : mi_pokB 8 false (mi_bytes mi_h112) mi_c112 = true := mi_b1 (mi_b2 (mi_b2 (mi_b2 (mi_b2 mi_czg12_3))))
theorem mi_cz113_ : mi_pokB 8 false (mi_bytes mi_h113) mi_c113 = true := mi_b1 (mi_b2 (mi_b2 (mi_b2 (mi_b2 (mi_b2 mi_czg12_3)))))
theorem mi_cz114_ : mi_pokB 8 false (mi_bytes mi_h114) mi_c114 = true := mi_b1 (mi_b2 (mi_b2 (mi_b2 (mi_b2 (mi_b2 (mi_b2 mi_czg12_3))))))
theorem mi_cz115_ : mi_pokB 8 false (mi_bytes mi_h115) mi_c115 = true := mi_b1 (mi_b2 (mi_b2 (mi_b2 (mi_b2 (mi_b2 (mi_b2 (mi_b2 mi_czg12_3)))))))
theorem mi_cz116_ : mi_pokB 8 false (mi_bytes mi_h116) mi_c116 = true := mi_b1 (mi_b2 (mi_b2 (mi_b2 (mi_b2 (mi_b2 (mi_b2 (mi_b2 (mi_b2 mi_czg12_3))))))))
theorem mi_cz117_ : mi_pokB 8 false (mi_bytes mi_h117) mi_c117 = true := mi_b1 (mi_b2 (mi_b2 (mi_b2 (mi_b2 (mi_b2 (mi_b2 (mi_b2 (mi_b2 (mi_b2 mi_czg12_3)))))))))
theorem mi_cz118_ : mi_pokB 8 false (mi_bytes mi_h118) mi_c118 = true := mi_b1 (mi_b2 (mi_b2 (mi_b2 (mi_b2 (mi_b2 (mi_b2 (mi_b2 (mi_b2 (mi_b2 (mi_b2 mi_czg12_3))))))))))
theorem mi_cz119_ : mi_pokB 8 false (mi_bytes mi_h119) mi_c119 = true := mi_b2 (mi_b2 (mi_b2 (mi_b2 (mi_b2 (mi_b2 (mi_b2 (mi_b2 (mi_b2 (mi_b2 (mi_b2 mi_czg12_3))))))))))
theorem mi_czg12_4 : (mi_pokB 8 false (mi_bytes mi_h120) mi_c120 && (mi_pokB 8 false (mi_bytes mi_h121) mi_c121 && (mi_pokB 8 false (mi_bytes mi_h122) mi_c122 && (mi_pokB 8 false (mi_bytes mi_h123) mi_c123 && (mi_pokB 8 false (mi_bytes mi_h124) mi_c124 && (mi_pokB 8 false (mi_bytes mi_h125) mi_c125 && (mi_pokB 8 false (mi_bytes mi_h126) mi_c126 && (mi_pokB 8 false (mi_bytes mi_h127) mi_c127 && (mi_pokB 8 false (mi_bytes mi_h128) mi_c128 && (mi_pokB 8 false (mi_bytes mi_h129) mi_c129 && (mi_pokB 9 true (mi_bytes mi_h130) mi_c130 && (mi_pokB 9 false (mi_bytes mi_h131) mi_c131)))))))))))) = true := by decide +kernel
theorem mi_cz120_ : mi_pokB 8 false (mi_bytes mi_h120) mi_c120 = true := mi_b1 mi_czg12_4
theorem mi_cz121_ : mi_pokB 8 false (mi_bytes mi_h121) mi_c121 = true := mi_b1 (mi_b2 mi_czg12_4)
theorem mi_cz122_ : mi_pokB 8 false (mi_bytes mi_h122) mi_c122 = true := mi_b1 (mi_b2 (mi_b2 mi_czg12_4))
theorem mi_cz123_ : mi_pokB 8 false (mi_bytes mi_h123) mi_c123 = true := mi_b1 (mi_b2 (mi_b2 (mi_b2 mi_czg12_4)))
theorem mi_cz124_ : mi_pokB 8 false (mi_bytes mi_h124) mi_c124 = true := mi_b1 (mi_b2 (mi_b2 (mi_b2 (mi_b2 mi_czg12_4))))
theorem mi_cz125_ : mi_pokB 8 false (mi_bytes mi_h125) mi_c125 = true := mi_b1 (mi_b2 (mi_b2 (mi_b2 (mi_b2 (mi_b2 mi_czg12_4)))))
theorem mi_cz126_ : mi_pokB 8 false (mi_bytes mi_h126) mi_c126 = true := mi_b1 (mi_b2 (mi_b2 (mi_b2 (mi_b2 (mi_b2 (mi_b2 mi_czg12_4))))))
theorem mi_cz127_ : mi_pokB 8 false (mi_bytes mi_h127) mi_c127 = true := mi_b1 (mi_b2 (mi_b2 (mi_b2 (mi_b2 (mi_b2 (mi_b2 (mi_b2 mi_czg12_4)))))))
theorem mi_cz128_ : mi_pokB 8 false (mi_bytes mi_h128) mi_c128 = true := mi_b1 (mi_b2 (mi_b2 (mi_b2 (mi_b2 (mi_b2 (mi_b2 (mi_b2 (mi_b2 mi_czg12_4))))))))
theorem mi_cz129_ : mi_pokB 8 false (mi_bytes mi_h129) mi_c129 = true := mi_b1 (mi_b2 (mi_b2 (mi_b2 (mi_b2 (mi_b2 (mi_b2 (mi_b2 (mi_b2 (mi_b2 mi_czg12_4)))))))))
theorem mi_cz130_ : mi_pokB 9 true (mi_bytes mi_h130) mi_c130 = true := mi_b1 (mi_b2 (mi_b2 (mi_b2 (mi_b2 (mi_b2 (mi_b2 (mi_b2 (mi_b2 (mi_b2 (mi_b2 mi_czg12_4))))))))))
theorem mi_cz131_ : mi_pokB 9 false (mi_bytes mi_h131) mi_c131 = true := mi_b2 (mi_b2 (mi_b2 (mi_b2 (mi_b2 (mi_b2 (mi_b2 (mi_b2 (mi_b2 (mi_b2 (mi_b2 mi_czg12_4))))))))))
theorem mi_czg12_5 : (mi_pokB 9 false (mi_bytes mi_h132) mi_c132 && (mi_pokB 9 false (mi_bytes mi_h133) mi_c133 && (mi_pokB 9 false (mi_bytes mi_h134) mi_c134 && (mi_pokB 9 false (mi_bytes mi_h135) mi_c135 && (mi_pokB 9 false (mi_bytes mi_h136) mi_c136 && (mi_pokB 9 false (mi_bytes mi_h137) mi_c137 && (mi_pokB 9 false (mi_bytes mi_h138) mi_c138 && (mi_pokB 9 false (mi_bytes mi_h139) mi_c139 && (mi_pokB 9 false (mi_bytes mi_h140) mi_c140 && (mi_pokB 9 false (mi_bytes mi_h141) mi_c141 && (mi_pokB 9 false (mi_bytes mi_h142) mi_c142))))))))))) = true := by decide +kernel
theorem mi_cz132_ : mi_pokB 9 false (mi_bytes mi_h132) mi_c132 = true := mi_b1 mi_czg12_5
theorem mi_cz133_ : mi_pokB 9 false (mi_bytes mi_h133) mi_c133 = true := mi_b1 (mi_b2 mi_czg12_5)
theorem mi_cz134_ : mi_pokB 9 false (mi_bytes mi_h134) mi_c134 = true := mi_b1 (mi_b2 (mi_b2 mi_czg12_5))
theorem mi_cz135_ : mi_pokB 9 false (mi_bytes mi_h135) mi_c135 = true := mi_b1 (mi_b2 (mi_b2 (mi_b2 mi_czg12_5)))
theorem mi_cz136_ : mi_pokB 9 false (mi_bytes mi_h136) mi_c136 = true := mi_b1 (mi_b2 (mi_b2 (mi_b2 (mi_b2 mi_czg12_5))))
theorem mi_cz137_ : mi_pokB 9 false (mi_bytes mi_h137) mi_c137 = true := mi_b1 (mi_b2 (mi_b2 (mi_b2 (mi_b2 (mi_b2 mi_czg12_5)))))
theorem mi_cz138_ : mi_pokB 9 false (mi_bytes mi_h138) mi_c138 = true := mi_b1 (mi_b2 (mi_b2 (mi_b2 (mi_b2 (mi_b2 (mi_b2 mi_czg12_5))))))
theorem mi_cz139_ : mi_pokB 9 false (mi_bytes mi_h139) mi_c139 = true := mi_b1 (mi_b2 (mi_b2 (mi_b2 (mi_b2 (mi_b2 (mi_b2 (mi_b2 mi_czg12_5)))))))
theorem mi_cz140_ : mi_pokB 9 false (mi_bytes mi_h140) mi_c140 = true := mi_b1 (mi_b2 (mi_b2 (mi_b2 (mi_b2 (mi_b2 (mi_b2 (mi_b2 (mi_b2 mi_czg12_5))))))))
theorem mi_cz141_ : mi_pokB 9 false (mi_bytes mi_h141) mi_c141 = true := mi_b1 (mi_b2 (mi_b2 (mi_b2 (mi_b2 (mi_b2 (mi_b2 (mi_b2 (mi_b2 (mi_b2 mi_czg12_5)))))))))
theorem mi_cz142_ : mi_pokB 9 false (mi_bytes mi_h142) mi_c142 = true := mi_b2 (mi_b2 (mi_b2 (mi_b2 (mi_b2 (mi_b2 (mi_b2 (mi_b2 (mi_b2 (mi_b2 mi_czg12_5)))))))))
end
section
theorem mi_czg13_0 : (mi_pokB 9 false (mi_bytes mi_h143) mi_c143 && (mi_pokB 9 false (mi_bytes mi_h144) mi_c144 && (mi_pokB 9 false (mi_bytes mi_h145) mi_c145 && (mi_pokB 9 false (mi_bytes mi_h146) mi_c146 && (mi_pokB 9 false (mi_bytes mi_h147) mi_c147 && (mi_pokB 9 false (mi_bytes mi_h148) mi_c148 && (mi_pokB 9 false (mi_bytes mi_h149) mi_c149 && (mi_pokB 9 false (mi_bytes mi_h150) mi_c150 && (mi_pokB 9 false (mi_bytes mi_h151) mi_c151 && (mi_pokB 9 false (mi_bytes mi_h152) mi_c152 && (mi_pokB 9 false (mi_bytes mi_h153) mi_c153 && (mi_pokB 9 false (mi_bytes mi_h154) mi_c154)))))))))))) = true := by decide +kernel
theorem mi_cz143_ : mi_pokB 9 false (mi_bytes mi_h143) mi_c143 = true := mi_b1 mi_czg13_0
theorem mi_cz144_ : mi_pokB 9 false (mi_bytes mi_h144) mi_c144 = true := mi_b1 (mi_b2 mi_czg13_0)
theorem mi_cz145_ : mi_pokB 9 false (mi_bytes mi_h145) mi_c145 = true := mi_b1 (mi_b2 (mi_b2 mi_czg13_0))
theorem mi_cz146_ : mi_pokB 9 false (mi_bytes mi_h146) mi_c146 = true := mi_b1 (mi_b2 (mi_b2 (mi_b2 mi_czg13_0)))
theorem mi_cz147_ : mi_pokB 9 false (mi_bytes mi_h147) mi_c147 = true := mi_b1 (mi_b2 (mi_b2 (mi_b2 (mi_b2 mi_czg13_0))))
theorem mi_cz148_ : mi_pokB 9 false (mi_bytes mi_h148) mi_c148 = true := mi_b1 (mi_b2 (mi_b2 (mi_b2 (mi_b2 (mi_b2 mi_czg13_0)))))
theorem mi_cz149_ : mi_pokB 9 false (mi_bytes mi_h149) mi_c149 = true := mi_b1 (mi_b2 (mi_b2 (mi_b2 (mi_b2 (mi_b2 (mi_b2 mi_czg13_0))))))
theorem mi_cz150_ : mi_pokB 9 false (mi_bytes mi_h150) mi_c150 = true := mi_b1 (mi_b2 (mi_b2 (mi_b2 (mi_b2 (mi_b2 (mi_b2 (mi_b2 mi_czg13_0)))))))
theorem mi_cz151_ : mi_pokB 9 false (mi_bytes mi_h151) mi_c151 = true := mi_b1 (mi_b2 (mi_b2 (mi_b2 (mi_b2 (mi_b2 (mi_b2 (mi_b2 (mi_b2 mi_czg13_0))))))))
theorem mi_cz152_ : mi_pokB 9 false (mi_bytes mi_h152) mi_c152 = true := mi_b1 (mi_b2 (mi_b2 (mi_b2 (mi_b2 (mi_b2 (mi_b2 (mi_b2 (mi_b2 (mi_b2 mi_czg13_0)))))))))
theorem mi_cz153_ : mi_pokB 9 false (mi_bytes mi_h153) mi_c153 = true := mi_b1 (mi_b2 (mi_b2 (mi_b2 (mi_b2 (mi_b2 (mi_b2 (mi_b2 (mi_b2 (mi_b2 (mi_b2 mi_czg13_0))))))))))
theorem mi_cz154_ : mi_pokB 9 false (mi_bytes mi_h154) mi_c154 = true := mi_b2 (mi_b2 (mi_b2 (mi_b2 (mi_b2 (mi_b2 (mi_b2 (mi_b2 (mi_b2 (mi_b2 (mi_b2 mi_czg13_0))))))))))
theorem mi_czg13_1 : (mi_pokB 9 false (mi_bytes mi_h155) mi_c155 && (mi_pokB 9 false (mi_bytes mi_h156) mi_c156 && (mi_pokB 9 false (mi_bytes mi_h157) mi_c157 && (mi_pokB 9 false (mi_bytes mi_h158) mi_c158 && (mi_pokB 9 false (mi_bytes mi_h159) mi_c159 && (mi_pokB 9 false (mi_bytes mi_h160) mi_c160 && (mi_pokB 9 false (mi_bytes mi_h161) mi_c161 && (mi_pokB 9 false (mi_bytes mi_h162) mi_c162 && (mi_pokB 9 false (mi_bytes mi_h163) mi_c163 && (mi_pokB 9 false (mi_bytes mi_h164) mi_c164 && (mi_pokB 9 false (mi_bytes mi_h165) mi_c165 && (mi_pokB 9 false (mi_bytes mi_h166) mi_c166)))))))))))) = true := by decide +kernel
theorem mi_cz155_ : mi_pokB 9 false (mi_bytes mi_h155) mi_c155 = true := mi_b1 mi_czg13_1
theorem mi_cz156_ : mi_pokB 9 false (mi_bytes mi_h156) mi_c156 = true := mi_b1 (mi_b2 mi_czg13_1)
theorem mi_cz157_ : mi_pokB 9 false (mi_bytes mi_h157) mi_c157 = true := mi_b1 (mi_b2 (mi_b2 mi_czg13_1))
theorem mi_cz158_ : mi_pokB 9 false (mi_bytes mi_h158) mi_c158 = true := mi_b1 (mi_b2 (mi_b2 (mi_b2 mi_czg13_1)))
theorem mi_cz159_ : mi_pokB 9 false (mi_bytes mi_h159) mi_c159 = true := mi_b1 (mi_b2 (mi_b2 (mi_b2 (mi_b2 mi_czg13_1))))
theorem mi_cz160_ : mi_pokB 9 false (mi_bytes mi_h160) mi_c160 = true := mi_b1 (mi_b2 (mi_b2 (mi_b2 (mi_b2 (mi_b2 mi_czg13_1)))))
theorem mi_cz161_ : mi_pokB 9 false (mi_bytes mi_h161) mi_c161 = true := mi_b1 (mi_b2 (mi_b2 (mi_b2 (mi_b2 (mi_b2 (mi_b2 mi_czg13_1))))))
theorem mi_cz162_ : mi_pokB 9 false (mi_bytes mi_h162) mi_c162 = true := mi_b1 (mi_b2 (mi_b2 (mi_b2 (mi_b2 (mi_b2 (mi_b2 (mi_b2 mi_czg13_1)))))))
theorem mi_cz163_ : mi_pokB 9 false (mi_bytes mi_h163) mi_c163 = true := mi_b1 (mi_b2 (mi_b2 (mi_b2 (mi_b2 (mi_b2 (mi_b2 (mi_b2 (mi_b2 mi_czg13_1))))))))
theorem mi_cz164_ : mi_pokB 9 false (mi_bytes mi_h164) mi_c164 = true := mi_b1 (mi_b2 (mi_b2 (mi_b2 (mi_b2 (mi_b2 (mi_b2 (mi_b2 (mi_b2 (mi_b2 mi_czg13_1)))))))))
theorem mi_cz165_ : mi_pokB 9 false (mi_bytes mi_h165) mi_c165 = true := mi_b1 (mi_b2 (mi_b2 (mi_b2 (mi_b2 (mi_b2 (mi_b2 (mi_b2 (mi_b2 (mi_b2 (mi_b2 mi_czg13_1))))))))))
theorem mi_cz166_ : mi_pokB 9 false (mi_bytes mi_h166) mi_c166 = true := mi_b2 (mi_b2 (mi_b2 (mi_b2 (mi_b2 (mi_b2 (mi_b2 (mi_b2 (mi_b2 (mi_b2 (mi_b2 mi_czg13_1))))))))))
theorem mi_czg13_2 : (mi_pokB 9 false (mi_bytes mi_h167) mi_c167 && (mi_pokB 9 false (mi_bytes mi_h168) mi_c168 && (mi_pokB 9 false (mi_bytes mi_h169) mi_c169 && (mi_pokB 9 false (mi_bytes mi_h170) mi_c170 && (mi_pokB 9 false (mi_bytes mi_h171) mi_c171 && (mi_pokB 9 false (mi_bytes mi_h172) mi_c172 && (mi_pokB 9 false (mi_bytes mi_h173) mi_c173 && (mi_pokB 9 false (mi_bytes mi_h174) mi_c174 && (mi_pokB 9 false (mi_bytes mi_h175) mi_c175 && (mi_pokB 9 false (mi_bytes mi_h176) mi_c176 && (mi_pokB 9 false (mi_bytes mi_h177) mi_c177 && (mi_pokB 9 false (mi_bytes mi_h178) mi_c178)))))))))))) = true := by decide +kernel
theorem mi_cz167_ : mi_pokB 9 false (mi_bytes mi_h167) mi_c167 = true := mi_b1 mi_czg13_2
theorem mi_cz168_ : mi_pokB 9 false (mi_bytes mi_h168) mi_c168 = true := mi_b1 (mi_b2 mi_czg13_2)
theorem mi_cz169_ : mi_pokB 9 false (mi_bytes mi_h169) mi_c169 = true := mi_b1 (mi_b2 (mi_b2 mi_czg13_2))
theorem mi_cz170_ : mi_pokB 9 false (mi_bytes mi_h170) mi_c170 = true := mi_b1 (mi_b2 (mi_b2 (mi_b2 mi_czg13_2)))
theorem mi_cz171_ : mi_pokB 9 false (mi_bytes mi_h171) mi_c171 = true := mi_b1 (mi_b2 (mi_b2 (mi_b2 (mi_b2 mi_czg13_2))))
theorem mi_cz172_ : mi_pokB 9 false (mi_bytes mi_h172) mi_c172 = true := mi_b1 (mi_b2 (mi_b2 (mi_b2 (mi_b2 (mi_b2 mi_czg13_2)))))
theorem mi_cz173_ : mi_pokB 9 false (mi_bytes mi_h173) mi_c173 = true := mi_b1 (mi_b2 (mi_b2 (mi_b2 (mi_b2 (mi_b2 (mi_b2 mi_czg13_2))))))
theorem mi_cz174_ : mi_pokB 9 false (mi_bytes mi_h174) mi_c174 = true := mi_b1 (mi_b2 (mi_b2 (mi_b2 (mi_b2 (mi_b2 (mi_b2 (mi_b2 mi_czg13_2)))))))
theorem mi_cz175_ : mi_pokB 9 false (mi_bytes mi_h175) mi_c175 = true := mi_b1 (mi_b2 (mi_b2 (mi_b2 (mi_b2 (mi_b2 (mi_b2 (mi_b2 (mi_b2 mi_czg13_2))))))))
theorem mi_cz176_ : mi_pokB 9 false (mi_bytes mi_h176) mi_c176 = true := mi_b1 (mi_b2 (mi_b2 (mi_b2 (mi_b2 (mi_b2 (mi_b2 (mi_b2 (mi_b2 (mi_b2 mi_czg13_2)))))))))
theorem mi_cz177_ : mi_pokB 9 false (mi_bytes mi_h177) mi_c177 = true := mi_b1 (mi_b2 (mi_b2 (mi_b2 (mi_b2 (mi_b2 (mi_b2 (mi_b2 (mi_b2 (mi_b2 (mi_b2 mi_czg13_2))))))))))
theorem mi_cz178_ : mi_pokB 9 false (mi_bytes mi_h178) mi_c178 = true := mi_b2 (mi_b2 (mi_b2 (mi_b2 (mi_b2 (mi_b2 (mi_b2 (mi_b2 (mi_b2 (mi_b2 (mi_b2 mi_czg13_2))))))))))
theorem mi_czg13_3 : (mi_pokB 9 false (mi_bytes mi_h179) mi_c179 && (mi_pokB 9 false (mi_bytes mi_h180) mi_c180 && (mi_pokB 9 false (mi_bytes mi_h181) mi_c181 && (mi_pokB 9 false (mi_bytes mi_h182) mi_c182 && (mi_pokB 9 false (mi_bytes mi_h183) mi_c183 && (mi_pokB 9 false (mi_bytes mi_h184) mi_c184 && (mi_pokB 9 false (mi_bytes mi_h185) mi_c185 && (mi_pokB 9 false (mi_bytes mi_h186) mi_c186 && (mi_pokB 9 false (mi_bytes mi_h187) mi_c187 && (mi_pokB 9 false (mi_bytes mi_h188) mi_c188 && (mi_pokB 9 false (mi_bytes mi_h189) mi_c189 && (mi_pokB 9 false (mi_bytes mi_h190) mi_c190)))))))))))) = true := by decide +kernel
theorem mi_cz179_ : mi_pokB 9 false (mi_bytes mi_h179) mi_c179 = true := mi_b1 mi_czg13_3
theorem mi_cz180_ : mi_pokB 9 false (mi_bytes mi_h180) mi_c180 = true := mi_b1 (mi_b2 mi_czg13_3)
theorem mi_cz181_ : mi_pokB 9 false (mi_bytes mi_h181) mi_c181 = true := mi_b1 (mi_b2 (mi_b2 mi_czg13_3))
theorem mi_cz182_ : mi_pokB 9 false (mi_bytes mi_h182) mi_c182 = true := mi_b1 (mi_b2 (mi_b2 (mi_b2 mi_czg13_3)))
theorem mi_cz183_ : mi_pokB 9 false (mi_bytes mi_h183) mi_c183 = true := mi_b1 (mi_b2 (mi_b2 (mi_b2 (mi_b2 mi_czg13_3))))
theorem mi_cz184_ : mi_pokB 9 false (mi_bytes mi_h184) mi_c184 = true := mi_b1 (mi_b2 (mi_b2 (mi_b2 (mi_b2 (mi_b2 mi_czg13_3)))))
theorem mi_cz185_ : mi_pokB 9 false (mi_bytes mi_h185) mi_c185 = true := mi_b1 (mi_b2 (mi_b2 (mi_b2 (mi_b2 (mi_b2 (mi_b2 mi_czg13_3))))))
theorem mi_cz186_ : mi_pokB 9 false (mi_bytes mi_h186) mi_c186 = true := mi_b1 (mi_b2 (mi_b2 (mi_b2 (mi_b2 (mi_b2 (mi_b2 (mi_b2 mi_czg13_3)))))))
theorem mi_cz187_ : mi_pokB 9 false (mi_bytes mi_h187) mi_c187 = true := mi_b1 (mi_b2 (mi_b2 (mi_b2 (mi_b2 (mi_b2 (mi_b2 (mi_b2 (mi_b2 mi_czg13_3))))))))
theorem mi_cz188_ : mi_pokB 9 false (mi_bytes mi_h188) mi_c188 = true := mi_b1 (mi_b2 (mi_b2 (mi_b2 (mi_b2 (mi_b2 (mi_b2 (mi_b2 (mi_b2 (mi_b2 mi_czg13_3)))))))))
theorem mi_cz189_ : mi_pokB 9 false (mi_bytes mi_h189) mi_c189 = true := mi_b1 (mi_b2 (mi_b2 (mi_b2 (mi_b2 (mi_b2 (mi_b2 (mi_b2 (mi_b2 (mi_b2 (mi_b2 mi_czg13_3))))))))))
theorem mi_cz190_ : mi_pokB 9 false (mi_bytes mi_h190) mi_c190 = true := mi_b2 (mi_b2 (mi_b2 (mi_b2 (mi_b2 (mi_b2 (mi_b2 (mi_b2 (mi_b2 (mi_b2 (mi_b2 mi_czg13_3))))))))))
theorem mi_czg13_4 : (mi_pokB 9 false (mi_bytes mi_h191) mi_c191 && (mi_pokB 9 false (mi_bytes mi_h192) mi_c192 && (mi_pokB 9 false (mi_bytes mi_h193) mi_c193 && (mi_pokB 9 false (mi_bytes mi_h194) mi_c194 && (mi_pokB 9 false (mi_bytes mi_h195) mi_c195 && (mi_pokB 9 false (mi_bytes mi_h196) mi_c196 && (mi_pokB 9 false (mi_bytes mi_h197) mi_c197))))))) = true := by decide +kernel
theorem mi_cz191_ : mi_pokB 9 false (mi_bytes mi_h191) mi_c191 = true := mi_b1 mi_czg13_4
theorem mi_cz192_ : mi_pokB 9 false (mi_bytes mi_h192) mi_c192 = true := mi_b1 (mi_b2 mi_czg13_4)
theorem mi_cz193_ : mi_pokB 9 false (mi_bytes mi_h193) mi_c193 = true := mi_b1 (mi_b2 (mi_b2 mi_czg13_4))
theorem mi_cz194_ : mi_pokB 9 false (mi_bytes mi_h194) mi_c194 = true := mi_b1 (mi_b2 (mi_b2 (mi_b2 mi_czg13_4)))
theorem mi_cz195_ : mi_pokB 9 false (mi_bytes mi_h195) mi_c195 = true := mi_b1 (mi_b2 (mi_b2 (mi_b2 (mi_b2 mi_czg13_4))))
theorem mi_cz196_ : mi_pokB 9 false (mi_bytes mi_h196) mi_c196 = true := mi_b1 (mi_b2 (mi_b2 (mi_b2 (mi_b2 (mi_b2 mi_czg13_4)))))
theorem mi_cz197_ : mi_pokB 9 false (mi_bytes mi_h197) mi_c197 = true := mi_b2 (mi_b2 (mi_b2 (mi_b2 (mi_b2 (mi_b2 mi_czg13_4)))))
end
