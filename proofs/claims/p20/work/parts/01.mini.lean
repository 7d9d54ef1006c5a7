/-! THE SMALL MACHINE: a frame over places instead of addresses. Its pure instructions. -/
abbrev mi_A : Type := List Int32 ⊕ (List Int64 ⊕ List (Option Nat))
abbrev mi_E : Type := (Nat × List Value) ⊕ (FieldType × mi_A)
abbrev mi_H : Type := List mi_E
abbrev mi_L : Type := List (Nat × Value)
/-- what stands beside an instruction: two numbers, the kind of its link, a constant, the number of the link -/
abbrev mi_X : Type := Nat × Nat × Nat × Int × Nat
abbrev mi_I : Type := Instr × Nat × mi_X
def mi_lk : mi_L → Nat → Option Value
  | [], _ => none
  | q :: r, i => match Nat.beq q.1 i with
    | true => some q.2
    | false => mi_lk r i
def mi_s1 (ls : mi_L) (i : Nat) (v : Value) : mi_L := (i, v) :: ls.filter (fun q => !(q.1 == i) && !(q.1 + 1 == i && q.2.category == 2))
def mi_s2 (ls : mi_L) (i : Nat) (v : Value) : mi_L := (i, v) :: ls.filter (fun q => !(q.1 == i) && (!(q.1 == i + 1) && !(q.1 + 1 == i && q.2.category == 2)))
def mi_to (pc : Nat) (off : Int) : Option Nat := match (pc : Int) + off with
  | .ofNat t => some t
  | .negSucc _ => none
def mi_br (c : Bool) (pc : Nat) (off : Int) (ls : mi_L) (st : List Value) : Option (Nat × mi_L × List Value) := match mi_to pc off with
  | some t => some (bif c then t else pc + 3, ls, st)
  | none => none

def mi_pure (ins : Instr) (pc nL : Nat) (ls : mi_L) (st : List Value) : Option (Nat × mi_L × List Value) := match ins with
  | .iconst n => some (pc + 1, ls, .int (Int32.ofInt n) :: st)
  | .bipush n => some (pc + 2, ls, .int (Int8.ofInt n).toInt32 :: st)
  | .sipush n => some (pc + 3, ls, .int (Int16.ofInt n).toInt32 :: st)
  | .lconst n => some (pc + 1, ls, .long (Int64.ofNat (n : Nat)) :: st)
  | .iload_n k => (match mi_lk ls (k : Nat) with | some (.int x) => some (pc + 1, ls, .int x :: st) | _ => none)
  | .iload i => (match mi_lk ls i with | some (.int x) => some (pc + 2, ls, .int x :: st) | _ => none)
  | .lload_n k => (match mi_lk ls (k : Nat) with | some (.long x) => some (pc + 1, ls, .long x :: st) | _ => none)
  | .lload i => (match mi_lk ls i with | some (.long x) => some (pc + 2, ls, .long x :: st) | _ => none)
  | .aload_n k => (match mi_lk ls (k : Nat) with | some (.ref x) => some (pc + 1, ls, .ref x :: st) | _ => none)
  | .aload i => (match mi_lk ls i with | some (.ref x) => some (pc + 2, ls, .ref x :: st) | _ => none)
  | .istore_n k => (match st with | .int x :: r => (match Nat.blt ((k : Nat)) nL with | true => some (pc + 1, mi_s1 ls (k : Nat) (.int x), r) | false => none) | _ => none)
  | .istore i => (match st with | .int x :: r => (match Nat.blt (i) nL with | true => some (pc + 2, mi_s1 ls i (.int x), r) | false => none) | _ => none)
  | .lstore_n k => (match st with | .long x :: r => (match Nat.blt ((k : Nat) + 1) nL with | true => some (pc + 1, mi_s2 ls (k : Nat) (.long x), r) | false => none) | _ => none)
  | .lstore i => (match st with | .long x :: r => (match Nat.blt (i + 1) nL with | true => some (pc + 2, mi_s2 ls i (.long x), r) | false => none) | _ => none)
  | .astore_n k => (match st with | .ref x :: r => (match Nat.blt ((k : Nat)) nL with | true => some (pc + 1, mi_s1 ls (k : Nat) (.ref x), r) | false => none) | _ => none)
  | .astore i => (match st with | .ref x :: r => (match Nat.blt (i) nL with | true => some (pc + 2, mi_s1 ls i (.ref x), r) | false => none) | _ => none)
  | .iinc i n => (match mi_lk ls i with | some (.int x) => (match Nat.blt i nL with | true => some (pc + 3, mi_s1 ls i (.int (x + Int32.ofInt n)), st) | false => none) | _ => none)
  | .iadd => (match st with | .int y :: .int x :: r => some (pc + 1, ls, .int (x + y) :: r) | _ => none)
  | .isub => (match st with | .int y :: .int x :: r => some (pc + 1, ls, .int (x - y) :: r) | _ => none)
  | .imul => (match st with | .int y :: .int x :: r => some (pc + 1, ls, .int (x * y) :: r) | _ => none)
  | .iand => (match st with | .int y :: .int x :: r => some (pc + 1, ls, .int (x &&& y) :: r) | _ => none)
  | .ior => (match st with | .int y :: .int x :: r => some (pc + 1, ls, .int (x ||| y) :: r) | _ => none)
  | .ixor => (match st with | .int y :: .int x :: r => some (pc + 1, ls, .int (x ^^^ y) :: r) | _ => none)
  | .ishl => (match st with | .int y :: .int x :: r => some (pc + 1, ls, .int (x <<< (y &&& 31)) :: r) | _ => none)
  | .ishr => (match st with | .int y :: .int x :: r => some (pc + 1, ls, .int (x >>> (y &&& 31)) :: r) | _ => none)
  | .iushr => (match st with | .int y :: .int x :: r => some (pc + 1, ls, .int ((x.toUInt32 >>> (y.toUInt32 &&& Int32.toUInt32 31)).toInt32) :: r) | _ => none)
  | .idiv => (match st with | .int y :: .int x :: r => (match y == 0 with | true => none | false => some (pc + 1, ls, .int (x / y) :: r)) | _ => none)
  | .irem => (match st with | .int y :: .int x :: r => (match y == 0 with | true => none | false => some (pc + 1, ls, .int (x - x / y * y) :: r)) | _ => none)
  | .ladd => (match st with | .long y :: .long x :: r => some (pc + 1, ls, .long (x + y) :: r) | _ => none)
  | .lmul => (match st with | .long y :: .long x :: r => some (pc + 1, ls, .long (x * y) :: r) | _ => none)
  | .land => (match st with | .long y :: .long x :: r => some (pc + 1, ls, .long (x &&& y) :: r) | _ => none)
  | .lor => (match st with | .long y :: .long x :: r => some (pc + 1, ls, .long (x ||| y) :: r) | _ => none)
  | .lshl => (match st with | .int y :: .long x :: r => some (pc + 1, ls, .long (x <<< (y.toInt64 &&& 63)) :: r) | _ => none)
  | .lcmp => (match st with | .long y :: .long x :: r => some (pc + 1, ls, .int (lg_cmp x y) :: r) | _ => none)
  | .ineg => (match st with | .int x :: r => some (pc + 1, ls, .int (-x) :: r) | _ => none)
  | .i2l => (match st with | .int x :: r => some (pc + 1, ls, .long (x.toInt64) :: r) | _ => none)
  | .l2i => (match st with | .long x :: r => some (pc + 1, ls, .int (x.toInt32) :: r) | _ => none)
  | .i2b => (match st with | .int x :: r => some (pc + 1, ls, .int (x.toInt8.toInt32) :: r) | _ => none)
  | .i2s => (match st with | .int x :: r => some (pc + 1, ls, .int (x.toInt16.toInt32) :: r) | _ => none)
  | .i2c => (match st with | .int x :: r => some (pc + 1, ls, .int ((x.toUInt32 % 65536).toInt32) :: r) | _ => none)
  | .dup => (match st with | v :: r => (match v.category == 1 with | true => some (pc + 1, ls, v :: v :: r) | false => none) | _ => none)
  | .pop => (match st with | v :: r => (match v.category == 1 with | true => some (pc + 1, ls, r) | false => none) | _ => none)
  | .pop2 => (match st with | v :: r => (match v.category == 2 with | true => some (pc + 1, ls, r) | false => none) | _ => none)
  | .dup_x1 => (match st with | v :: u :: r => (match v.category == 1 && u.category == 1 with | true => some (pc + 1, ls, v :: u :: v :: r) | false => none) | _ => none)
  | .dup2 => (match st with | v :: u :: r => (match v.category == 1 && u.category == 1 with | true => some (pc + 1, ls, v :: u :: v :: u :: r) | false => none) | _ => none)
  | .ifCond .eq off => (match st with | .int x :: r => mi_br (x == 0) pc off ls r | _ => none)
  | .if_icmp .eq off => (match st with | .int y :: .int x :: r => mi_br (x == y) pc off ls r | _ => none)
  | .ifCond .ne off => (match st with | .int x :: r => mi_br (x != 0) pc off ls r | _ => none)
  | .if_icmp .ne off => (match st with | .int y :: .int x :: r => mi_br (x != y) pc off ls r | _ => none)
  | .ifCond .lt off => (match st with | .int x :: r => mi_br (decide (x < 0)) pc off ls r | _ => none)
  | .if_icmp .lt off => (match st with | .int y :: .int x :: r => mi_br (decide (x < y)) pc off ls r | _ => none)
  | .ifCond .ge off => (match st with | .int x :: r => mi_br (decide (0 ≤ x)) pc off ls r | _ => none)
  | .if_icmp .ge off => (match st with | .int y :: .int x :: r => mi_br (decide (y ≤ x)) pc off ls r | _ => none)
  | .ifCond .gt off => (match st with | .int x :: r => mi_br (decide (0 < x)) pc off ls r | _ => none)
  | .if_icmp .gt off => (match st with | .int y :: .int x :: r => mi_br (decide (y < x)) pc off ls r | _ => none)
  | .ifCond .le off => (match st with | .int x :: r => mi_br (decide (x ≤ 0)) pc off ls r | _ => none)
  | .if_icmp .le off => (match st with | .int y :: .int x :: r => mi_br (decide (x ≤ y)) pc off ls r | _ => none)
  | .goto off => (match mi_to pc off with | some t => some (t, ls, st) | none => none)
  | .tableswitch d lo hi offs => (match st with | .int x :: r => (match decide (x.toInt < lo ∨ hi < x.toInt) with | true => (match mi_to pc d with | some t => some (t, ls, r) | none => none) | false => (match offs[(x.toInt - lo).toNat]? with | some off => (match mi_to pc off with | some t => some (t, ls, r) | none => none) | none => none)) | _ => none)
  | .lookupswitch d ps => (match st with | .int x :: r => (match mi_to pc (Op.lookupswitch.offset ps.toList d x.toInt) with | some t => some (t, ls, r) | none => none) | _ => none)
  | _ => none
/-- the instruction has the length that it is decoded with; a lookupswitch is sorted -/
def mi_len (ins : Instr) (n : Nat) : Bool := match ins with
  | .tableswitch .. => true
  | .lookupswitch _ ps => (ps.toList.zip (ps.toList.drop 1)).all (fun (a, next) => a.1 < next.1)
  | .bipush .. | .iload .. | .lload .. | .aload .. | .istore .. | .lstore .. | .astore .. | .ldc .. | .newarray .. => n == 2
  | .sipush .. | .iinc .. | .ifCond .. | .if_icmp .. | .goto .. | .getfield .. | .putfield .. | .getstatic .. | .new .. | .anewarray .. | .ldc_w .. | .ldc2_w .. | .invokestatic .. | .invokevirtual .. | .invokespecial .. => n == 3
  | .multianewarray .. => n == 4
  | _ => n == 1
def mi_v (ad : Nat → Nat) : Value → Value
  | .ref k => .ref (ad k)
  | v => v
def mi_st (ad : Nat → Nat) (st : List Value) : List Value := st.map (mi_v ad)
def mi_ls (ad : Nat → Nat) (ls : mi_L) : mi_L := ls.map (fun q => (q.1, mi_v ad q.2))
theorem mi_v_cat (ad : Nat → Nat) (v : Value) : (mi_v ad v).category = v.category := by cases v <;> rfl
theorem mi_lk_in : ∀ (ls : mi_L) (i : Nat) (v : Value), mi_lk ls i = some v → (i, v) ∈ ls
  | [], _, _, h => by simp [mi_lk] at h
  | (j, u) :: r, i, v, h => by
    unfold mi_lk at h
    split at h
    next hj =>
      have e : j = i := Nat.eq_of_beq_eq_true hj
      cases h
      rw [e]
      exact List.mem_cons_self
    next => exact List.mem_cons_of_mem _ (mi_lk_in r i v h)
theorem mi_lk_ok {ad : Nat → Nat} {ar : Array Slot} {nL : Nat} {ls : mi_L} {i : Nat} {v : Value} (har : lv_has ar nL (mi_ls ad ls)) (h : mi_lk ls i = some v) : ar[i]? = some (.val (mi_v ad v)) :=
  har.2.2 (i, mi_v ad v) (List.mem_map.mpr ⟨(i, v), mi_lk_in _ _ _ h, rfl⟩)
theorem mi_lk_at {ad : Nat → Nat} {ls : mi_L} {i : Nat} {v : Value} (h : mi_lk ls i = some v) : ∃ k : Nat, (mi_ls ad ls)[k]? = some (i, mi_v ad v) :=
  List.getElem?_of_mem (List.mem_map.mpr ⟨(i, v), mi_lk_in _ _ _ h, rfl⟩)
theorem mi_fil (ad : Nat → Nat) (ls : mi_L) (f g : Nat × Value → Bool) (hfg : ∀ q : Nat × Value, g (q.1, mi_v ad q.2) = f q) : (mi_ls ad ls).filter g = mi_ls ad (ls.filter f) := by
  unfold mi_ls
  rw [List.filter_map]
  congr 1
  apply List.filter_congr
  intro q _
  exact hfg q
theorem mi_s1_ok (ad : Nat → Nat) (ls : mi_L) (i : Nat) (v : Value) : (i, mi_v ad v) :: (mi_ls ad ls).filter (fun q => !(q.1 == i) && !(q.1 + 1 == i && q.2.category == 2)) = mi_ls ad (mi_s1 ls i v) := by
  rw [mi_fil ad ls (fun q => !(q.1 == i) && !(q.1 + 1 == i && q.2.category == 2)) _ (fun q => by simp only [mi_v_cat])]
  rfl
theorem mi_s2_ok (ad : Nat → Nat) (ls : mi_L) (i : Nat) (v : Value) : (i, mi_v ad v) :: (mi_ls ad ls).filter (fun q => !(q.1 == i) && (!(q.1 == i + 1) && !(q.1 + 1 == i && q.2.category == 2))) = mi_ls ad (mi_s2 ls i v) := by
  rw [mi_fil ad ls (fun q => !(q.1 == i) && (!(q.1 == i + 1) && !(q.1 + 1 == i && q.2.category == 2))) _ (fun q => by simp only [mi_v_cat])]
  rfl
theorem mi_to_ok {pc : Nat} {off : Int} {t : Nat} (h : mi_to pc off = some t) : (pc : Int) + off = (t : Int) := by
  unfold mi_to at h
  split at h
  next e => cases h; exact e
  next => cases h
theorem mi_blt {a b : Nat} (h : Nat.blt a b = true) : a < b := Nat.le_of_ble_eq_true h
section MI
variable {p : Program} {l : Launch} {e : Env} {R : Room} {s : State} {m : MethodId} {args : Array Value} {below : List Frame} {meth : Method} {c : Code} {H : Heap} {locs : List Loc} {cells slots : Nat} {Q : State → Prop}
variable {cc : ByteArray} {pc nL : Nat} {ls : mi_L} {st : List Value} {ad : Nat → Nat} {ar : Array Slot} {len : Nat}
theorem mi_br_ok {cb : Bool} {off : Int} {r : List Value} {pc' : Nat} {ls' : mi_L} {st' : List Value} (h : mi_br cb pc off ls r = some (pc', ls', st')) : ∃ t : Nat, (pc : Int) + off = (t : Int) ∧ ls' = ls ∧ st' = r ∧ (cb = true → pc' = t) ∧ (cb = false → pc' = pc + 3) := by
  unfold mi_br at h
  split at h
  next t ht =>
    cases h
    exact ⟨t, mi_to_ok ht, rfl, rfl, fun z => by rw [z]; rfl, fun z => by rw [z]; rfl⟩
  next => cases h

theorem mi_p_iconst (hexec : p.tables.exec = Jvm.exec) (hb : c.code = cc) {n : Int} (hd : decode cc pc = .ok (.iconst n, len)) (hlen : mi_len (.iconst n) len = true) {pc1 : Nat} {ls1 : mi_L} {st1 : List Value} (h : mi_pure (.iconst n) pc nL ls st = some (pc1, ls1, st1)) (har : lv_has ar nL (mi_ls ad ls)) (kk : ∀ ar1 : Array Slot, lv_has ar1 nL (mi_ls ad ls1) → W p l e R s m args below meth c H locs cells slots Q (F0 m pc1 ar1 (mi_st ad st1))) : W p l e R s m args below meth c H locs cells slots Q (F0 m pc ar (mi_st ad st)) := by
  cases (beq_iff_eq.mp hlen)
  cases h
  exact lv_iconst hexec hb hd rfl (kk ar har)
theorem mi_p_bipush (hexec : p.tables.exec = Jvm.exec) (hb : c.code = cc) {n : Int} (hd : decode cc pc = .ok (.bipush n, len)) (hlen : mi_len (.bipush n) len = true) {pc1 : Nat} {ls1 : mi_L} {st1 : List Value} (h : mi_pure (.bipush n) pc nL ls st = some (pc1, ls1, st1)) (har : lv_has ar nL (mi_ls ad ls)) (kk : ∀ ar1 : Array Slot, lv_has ar1 nL (mi_ls ad ls1) → W p l e R s m args below meth c H locs cells slots Q (F0 m pc1 ar1 (mi_st ad st1))) : W p l e R s m args below meth c H locs cells slots Q (F0 m pc ar (mi_st ad st)) := by
  cases (beq_iff_eq.mp hlen)
  cases h
  exact lv_bipush hexec hb hd rfl (kk ar har)
theorem mi_p_sipush (hexec : p.tables.exec = Jvm.exec) (hb : c.code = cc) {n : Int} (hd : decode cc pc = .ok (.sipush n, len)) (hlen : mi_len (.sipush n) len = true) {pc1 : Nat} {ls1 : mi_L} {st1 : List Value} (h : mi_pure (.sipush n) pc nL ls st = some (pc1, ls1, st1)) (har : lv_has ar nL (mi_ls ad ls)) (kk : ∀ ar1 : Array Slot, lv_has ar1 nL (mi_ls ad ls1) → W p l e R s m args below meth c H locs cells slots Q (F0 m pc1 ar1 (mi_st ad st1))) : W p l e R s m args below meth c H locs cells slots Q (F0 m pc ar (mi_st ad st)) := by
  cases (beq_iff_eq.mp hlen)
  cases h
  exact lv_sipush hexec hb hd rfl (kk ar har)
theorem mi_p_lconst (hexec : p.tables.exec = Jvm.exec) (hb : c.code = cc) {n : Fin 2} (hd : decode cc pc = .ok (.lconst n, len)) (hlen : mi_len (.lconst n) len = true) {pc1 : Nat} {ls1 : mi_L} {st1 : List Value} (h : mi_pure (.lconst n) pc nL ls st = some (pc1, ls1, st1)) (har : lv_has ar nL (mi_ls ad ls)) (kk : ∀ ar1 : Array Slot, lv_has ar1 nL (mi_ls ad ls1) → W p l e R s m args below meth c H locs cells slots Q (F0 m pc1 ar1 (mi_st ad st1))) : W p l e R s m args below meth c H locs cells slots Q (F0 m pc ar (mi_st ad st)) := by
  cases (beq_iff_eq.mp hlen)
  cases h
  exact lv_lconst hexec hb hd rfl (kk ar har)
theorem mi_p_iload_n (hexec : p.tables.exec = Jvm.exec) (hb : c.code = cc) {k : Fin 4} (hd : decode cc pc = .ok (.iload_n k, len)) (hlen : mi_len (.iload_n k) len = true) {pc1 : Nat} {ls1 : mi_L} {st1 : List Value} (h : mi_pure (.iload_n k) pc nL ls st = some (pc1, ls1, st1)) (har : lv_has ar nL (mi_ls ad ls)) (kk : ∀ ar1 : Array Slot, lv_has ar1 nL (mi_ls ad ls1) → W p l e R s m args below meth c H locs cells slots Q (F0 m pc1 ar1 (mi_st ad st1))) : W p l e R s m args below meth c H locs cells slots Q (F0 m pc ar (mi_st ad st)) := by
  cases (beq_iff_eq.mp hlen)
  simp only [mi_pure] at h
  split at h
  next x hx =>
    cases h
    exact lv_iload_n hexec hb hd rfl (mi_lk_ok har hx) (kk ar har)
  next => cases h
theorem mi_p_iload (hexec : p.tables.exec = Jvm.exec) (hb : c.code = cc) {i : Nat} (hd : decode cc pc = .ok (.iload i, len)) (hlen : mi_len (.iload i) len = true) {pc1 : Nat} {ls1 : mi_L} {st1 : List Value} (h : mi_pure (.iload i) pc nL ls st = some (pc1, ls1, st1)) (har : lv_has ar nL (mi_ls ad ls)) (kk : ∀ ar1 : Array Slot, lv_has ar1 nL (mi_ls ad ls1) → W p l e R s m args below meth c H locs cells slots Q (F0 m pc1 ar1 (mi_st ad st1))) : W p l e R s m args below meth c H locs cells slots Q (F0 m pc ar (mi_st ad st)) := by
  cases (beq_iff_eq.mp hlen)
  simp only [mi_pure] at h
  split at h
  next x hx =>
    cases h
    exact lv_iload hexec hb hd (mi_lk_ok har hx) (kk ar har)
  next => cases h
theorem mi_p_lload_n (hexec : p.tables.exec = Jvm.exec) (hb : c.code = cc) {k : Fin 4} (hd : decode cc pc = .ok (.lload_n k, len)) (hlen : mi_len (.lload_n k) len = true) {pc1 : Nat} {ls1 : mi_L} {st1 : List Value} (h : mi_pure (.lload_n k) pc nL ls st = some (pc1, ls1, st1)) (har : lv_has ar nL (mi_ls ad ls)) (kk : ∀ ar1 : Array Slot, lv_has ar1 nL (mi_ls ad ls1) → W p l e R s m args below meth c H locs cells slots Q (F0 m pc1 ar1 (mi_st ad st1))) : W p l e R s m args below meth c H locs cells slots Q (F0 m pc ar (mi_st ad st)) := by
  cases (beq_iff_eq.mp hlen)
  simp only [mi_pure] at h
  split at h
  next x hx =>
    cases h
    exact lv_lload_n hexec hb hd rfl (mi_lk_ok har hx) (kk ar har)
  next => cases h
theorem mi_p_lload (hexec : p.tables.exec = Jvm.exec) (hb : c.code = cc) {i : Nat} (hd : decode cc pc = .ok (.lload i, len)) (hlen : mi_len (.lload i) len = true) {pc1 : Nat} {ls1 : mi_L} {st1 : List Value} (h : mi_pure (.lload i) pc nL ls st = some (pc1, ls1, st1)) (har : lv_has ar nL (mi_ls ad ls)) (kk : ∀ ar1 : Array Slot, lv_has ar1 nL (mi_ls ad ls1) → W p l e R s m args below meth c H locs cells slots Q (F0 m pc1 ar1 (mi_st ad st1))) : W p l e R s m args below meth c H locs cells slots Q (F0 m pc ar (mi_st ad st)) := by
  cases (beq_iff_eq.mp hlen)
  simp only [mi_pure] at h
  split at h
  next x hx =>
    cases h
    exact lv_lload hexec hb hd (mi_lk_ok har hx) (kk ar har)
  next => cases h
theorem mi_p_aload_n (hexec : p.tables.exec = Jvm.exec) (hb : c.code = cc) {k : Fin 4} (hd : decode cc pc = .ok (.aload_n k, len)) (hlen : mi_len (.aload_n k) len = true) {pc1 : Nat} {ls1 : mi_L} {st1 : List Value} (h : mi_pure (.aload_n k) pc nL ls st = some (pc1, ls1, st1)) (har : lv_has ar nL (mi_ls ad ls)) (kk : ∀ ar1 : Array Slot, lv_has ar1 nL (mi_ls ad ls1) → W p l e R s m args below meth c H locs cells slots Q (F0 m pc1 ar1 (mi_st ad st1))) : W p l e R s m args below meth c H locs cells slots Q (F0 m pc ar (mi_st ad st)) := by
  cases (beq_iff_eq.mp hlen)
  simp only [mi_pure] at h
  split at h
  next x hx =>
    cases h
    exact lv_aload_n hexec hb hd rfl (mi_lk_ok har hx) (kk ar har)
  next => cases h
theorem mi_p_aload (hexec : p.tables.exec = Jvm.exec) (hb : c.code = cc) {i : Nat} (hd : decode cc pc = .ok (.aload i, len)) (hlen : mi_len (.aload i) len = true) {pc1 : Nat} {ls1 : mi_L} {st1 : List Value} (h : mi_pure (.aload i) pc nL ls st = some (pc1, ls1, st1)) (har : lv_has ar nL (mi_ls ad ls)) (kk : ∀ ar1 : Array Slot, lv_has ar1 nL (mi_ls ad ls1) → W p l e R s m args below meth c H locs cells slots Q (F0 m pc1 ar1 (mi_st ad st1))) : W p l e R s m args below meth c H locs cells slots Q (F0 m pc ar (mi_st ad st)) := by
  cases (beq_iff_eq.mp hlen)
  simp only [mi_pure] at h
  split at h
  next x hx =>
    cases h
    exact lv_aload hexec hb hd (mi_lk_ok har hx) (kk ar har)
  next => cases h
theorem mi_p_istore_n (hexec : p.tables.exec = Jvm.exec) (hb : c.code = cc) {k : Fin 4} (hd : decode cc pc = .ok (.istore_n k, len)) (hlen : mi_len (.istore_n k) len = true) {pc1 : Nat} {ls1 : mi_L} {st1 : List Value} (h : mi_pure (.istore_n k) pc nL ls st = some (pc1, ls1, st1)) (har : lv_has ar nL (mi_ls ad ls)) (kk : ∀ ar1 : Array Slot, lv_has ar1 nL (mi_ls ad ls1) → W p l e R s m args below meth c H locs cells slots Q (F0 m pc1 ar1 (mi_st ad st1))) : W p l e R s m args below meth c H locs cells slots Q (F0 m pc ar (mi_st ad st)) := by
  cases (beq_iff_eq.mp hlen)
  simp only [mi_pure] at h
  split at h
  next x r =>
    split at h
    next hn =>
      cases h
      exact lv_istore_n hexec hb hd rfl har (mi_blt hn) (mi_s1_ok ad ls _ (.int x)) (fun ar1 h1 => kk ar1 h1)
    next => cases h
  next => cases h
theorem mi_p_istore (hexec : p.tables.exec = Jvm.exec) (hb : c.code = cc) {i : Nat} (hd : decode cc pc = .ok (.istore i, len)) (hlen : mi_len (.istore i) len = true) {pc1 : Nat} {ls1 : mi_L} {st1 : List Value} (h : mi_pure (.istore i) pc nL ls st = some (pc1, ls1, st1)) (har : lv_has ar nL (mi_ls ad ls)) (kk : ∀ ar1 : Array Slot, lv_has ar1 nL (mi_ls ad ls1) → W p l e R s m args below meth c H locs cells slots Q (F0 m pc1 ar1 (mi_st ad st1))) : W p l e R s m args below meth c H locs cells slots Q (F0 m pc ar (mi_st ad st)) := by
  cases (beq_iff_eq.mp hlen)
  simp only [mi_pure] at h
  split at h
  next x r =>
    split at h
    next hn =>
      cases h
      exact lv_istore hexec hb hd har (mi_blt hn) (mi_s1_ok ad ls _ (.int x)) (fun ar1 h1 => kk ar1 h1)
    next => cases h
  next => cases h
theorem mi_p_lstore_n (hexec : p.tables.exec = Jvm.exec) (hb : c.code = cc) {k : Fin 4} (hd : decode cc pc = .ok (.lstore_n k, len)) (hlen : mi_len (.lstore_n k) len = true) {pc1 : Nat} {ls1 : mi_L} {st1 : List Value} (h : mi_pure (.lstore_n k) pc nL ls st = some (pc1, ls1, st1)) (har : lv_has ar nL (mi_ls ad ls)) (kk : ∀ ar1 : Array Slot, lv_has ar1 nL (mi_ls ad ls1) → W p l e R s m args below meth c H locs cells slots Q (F0 m pc1 ar1 (mi_st ad st1))) : W p l e R s m args below meth c H locs cells slots Q (F0 m pc ar (mi_st ad st)) := by
  cases (beq_iff_eq.mp hlen)
  simp only [mi_pure] at h
  split at h
  next x r =>
    split at h
    next hn =>
      cases h
      exact lv_lstore_n hexec hb hd rfl har (mi_blt hn) (mi_s2_ok ad ls _ (.long x)) (fun ar1 h1 => kk ar1 h1)
    next => cases h
  next => cases h
theorem mi_p_lstore (hexec : p.tables.exec = Jvm.exec) (hb : c.code = cc) {i : Nat} (hd : decode cc pc = .ok (.lstore i, len)) (hlen : mi_len (.lstore i) len = true) {pc1 : Nat} {ls1 : mi_L} {st1 : List Value} (h : mi_pure (.lstore i) pc nL ls st = some (pc1, ls1, st1)) (har : lv_has ar nL (mi_ls ad ls)) (kk : ∀ ar1 : Array Slot, lv_has ar1 nL (mi_ls ad ls1) → W p l e R s m args below meth c H locs cells slots Q (F0 m pc1 ar1 (mi_st ad st1))) : W p l e R s m args below meth c H locs cells slots Q (F0 m pc ar (mi_st ad st)) := by
  cases (beq_iff_eq.mp hlen)
  simp only [mi_pure] at h
  split at h
  next x r =>
    split at h
    next hn =>
      cases h
      exact lv_lstore hexec hb hd har (mi_blt hn) (mi_s2_ok ad ls _ (.long x)) (fun ar1 h1 => kk ar1 h1)
    next => cases h
  next => cases h
theorem mi_p_astore_n (hexec : p.tables.exec = Jvm.exec) (hb : c.code = cc) {k : Fin 4} (hd : decode cc pc = .ok (.astore_n k, len)) (hlen : mi_len (.astore_n k) len = true) {pc1 : Nat} {ls1 : mi_L} {st1 : List Value} (h : mi_pure (.astore_n k) pc nL ls st = some (pc1, ls1, st1)) (har : lv_has ar nL (mi_ls ad ls)) (kk : ∀ ar1 : Array Slot, lv_has ar1 nL (mi_ls ad ls1) → W p l e R s m args below meth c H locs cells slots Q (F0 m pc1 ar1 (mi_st ad st1))) : W p l e R s m args below meth c H locs cells slots Q (F0 m pc ar (mi_st ad st)) := by
  cases (beq_iff_eq.mp hlen)
  simp only [mi_pure] at h
  split at h
  next x r =>
    split at h
    next hn =>
      cases h
      exact lv_astore_n hexec hb hd rfl har (mi_blt hn) (mi_s1_ok ad ls _ (.ref x)) (fun ar1 h1 => kk ar1 h1)
    next => cases h
  next => cases h
theorem mi_p_astore (hexec : p.tables.exec = Jvm.exec) (hb : c.code = cc) {i : Nat} (hd : decode cc pc = .ok (.astore i, len)) (hlen : mi_len (.astore i) len = true) {pc1 : Nat} {ls1 : mi_L} {st1 : List Value} (h : mi_pure (.astore i) pc nL ls st = some (pc1, ls1, st1)) (har : lv_has ar nL (mi_ls ad ls)) (kk : ∀ ar1 : Array Slot, lv_has ar1 nL (mi_ls ad ls1) → W p l e R s m args below meth c H locs cells slots Q (F0 m pc1 ar1 (mi_st ad st1))) : W p l e R s m args below meth c H locs cells slots Q (F0 m pc ar (mi_st ad st)) := by
  cases (beq_iff_eq.mp hlen)
  simp only [mi_pure] at h
  split at h
  next x r =>
    split at h
    next hn =>
      cases h
      exact lv_astore hexec hb hd har (mi_blt hn) (mi_s1_ok ad ls _ (.ref x)) (fun ar1 h1 => kk ar1 h1)
    next => cases h
  next => cases h
theorem mi_p_iinc (hexec : p.tables.exec = Jvm.exec) (hb : c.code = cc) {i : Nat} {n : Int} (hd : decode cc pc = .ok (.iinc i n, len)) (hlen : mi_len (.iinc i n) len = true) {pc1 : Nat} {ls1 : mi_L} {st1 : List Value} (h : mi_pure (.iinc i n) pc nL ls st = some (pc1, ls1, st1)) (har : lv_has ar nL (mi_ls ad ls)) (kk : ∀ ar1 : Array Slot, lv_has ar1 nL (mi_ls ad ls1) → W p l e R s m args below meth c H locs cells slots Q (F0 m pc1 ar1 (mi_st ad st1))) : W p l e R s m args below meth c H locs cells slots Q (F0 m pc ar (mi_st ad st)) := by
  cases (beq_iff_eq.mp hlen)
  simp only [mi_pure] at h
  split at h
  next x hx =>
    split at h
    next hn =>
      cases h
      obtain ⟨k, hk⟩ := mi_lk_at (ad := ad) hx
      exact lv_iinc hexec hb hd har hk rfl (mi_blt hn) (mi_s1_ok ad ls _ (.int _)) (fun ar1 h1 => kk ar1 h1)
    next => cases h
  next => cases h
theorem mi_p_iadd (hexec : p.tables.exec = Jvm.exec) (hb : c.code = cc) (hd : decode cc pc = .ok (.iadd, len)) (hlen : mi_len (.iadd) len = true) {pc1 : Nat} {ls1 : mi_L} {st1 : List Value} (h : mi_pure (.iadd) pc nL ls st = some (pc1, ls1, st1)) (har : lv_has ar nL (mi_ls ad ls)) (kk : ∀ ar1 : Array Slot, lv_has ar1 nL (mi_ls ad ls1) → W p l e R s m args below meth c H locs cells slots Q (F0 m pc1 ar1 (mi_st ad st1))) : W p l e R s m args below meth c H locs cells slots Q (F0 m pc ar (mi_st ad st)) := by
  cases (beq_iff_eq.mp hlen)
  simp only [mi_pure] at h
  split at h
  next y x r =>
    cases h
    exact lv_iadd hexec hb hd (kk ar har)
  next => cases h
theorem mi_p_isub (hexec : p.tables.exec = Jvm.exec) (hb : c.code = cc) (hd : decode cc pc = .ok (.isub, len)) (hlen : mi_len (.isub) len = true) {pc1 : Nat} {ls1 : mi_L} {st1 : List Value} (h : mi_pure (.isub) pc nL ls st = some (pc1, ls1, st1)) (har : lv_has ar nL (mi_ls ad ls)) (kk : ∀ ar1 : Array Slot, lv_has ar1 nL (mi_ls ad ls1) → W p l e R s m args below meth c H locs cells slots Q (F0 m pc1 ar1 (mi_st ad st1))) : W p l e R s m args below meth c H locs cells slots Q (F0 m pc ar (mi_st ad st)) := by
  cases (beq_iff_eq.mp hlen)
  simp only [mi_pure] at h
  split at h
  next y x r =>
    cases h
    exact lv_isub hexec hb hd (kk ar har)
  next => cases h
theorem mi_p_imul (hexec : p.tables.exec = Jvm.exec) (hb : c.code = cc) (hd : decode cc pc = .ok (.imul, len)) (hlen : mi_len (.imul) len = true) {pc1 : Nat} {ls1 : mi_L} {st1 : List Value} (h : mi_pure (.imul) pc nL ls st = some (pc1, ls1, st1)) (har : lv_has ar nL (mi_ls ad ls)) (kk : ∀ ar1 : Array Slot, lv_has ar1 nL (mi_ls ad ls1) → W p l e R s m args below meth c H locs cells slots Q (F0 m pc1 ar1 (mi_st ad st1))) : W p l e R s m args below meth c H locs cells slots Q (F0 m pc ar (mi_st ad st)) := by
  cases (beq_iff_eq.mp hlen)
  simp only [mi_pure] at h
  split at h
  next y x r =>
    cases h
    exact lv_imul hexec hb hd (kk ar har)
  next => cases h
theorem mi_p_iand (hexec : p.tables.exec = Jvm.exec) (hb : c.code = cc) (hd : decode cc pc = .ok (.iand, len)) (hlen : mi_len (.iand) len = true) {pc1 : Nat} {ls1 : mi_L} {st1 : List Value} (h : mi_pure (.iand) pc nL ls st = some (pc1, ls1, st1)) (har : lv_has ar nL (mi_ls ad ls)) (kk : ∀ ar1 : Array Slot, lv_has ar1 nL (mi_ls ad ls1) → W p l e R s m args below meth c H locs cells slots Q (F0 m pc1 ar1 (mi_st ad st1))) : W p l e R s m args below meth c H locs cells slots Q (F0 m pc ar (mi_st ad st)) := by
  cases (beq_iff_eq.mp hlen)
  simp only [mi_pure] at h
  split at h
  next y x r =>
    cases h
    exact lv_iand hexec hb hd (kk ar har)
  next => cases h
theorem mi_p_ior (hexec : p.tables.exec = Jvm.exec) (hb : c.code = cc) (hd : decode cc pc = .ok (.ior, len)) (hlen : mi_len (.ior) len = true) {pc1 : Nat} {ls1 : mi_L} {st1 : List Value} (h : mi_pure (.ior) pc nL ls st = some (pc1, ls1, st1)) (har : lv_has ar nL (mi_ls ad ls)) (kk : ∀ ar1 : Array Slot, lv_has ar1 nL (mi_ls ad ls1) → W p l e R s m args below meth c H locs cells slots Q (F0 m pc1 ar1 (mi_st ad st1))) : W p l e R s m args below meth c H locs cells slots Q (F0 m pc ar (mi_st ad st)) := by
  cases (beq_iff_eq.mp hlen)
  simp only [mi_pure] at h
  split at h
  next y x r =>
    cases h
    exact lv_ior hexec hb hd (kk ar har)
  next => cases h
theorem mi_p_ixor (hexec : p.tables.exec = Jvm.exec) (hb : c.code = cc) (hd : decode cc pc = .ok (.ixor, len)) (hlen : mi_len (.ixor) len = true) {pc1 : Nat} {ls1 : mi_L} {st1 : List Value} (h : mi_pure (.ixor) pc nL ls st = some (pc1, ls1, st1)) (har : lv_has ar nL (mi_ls ad ls)) (kk : ∀ ar1 : Array Slot, lv_has ar1 nL (mi_ls ad ls1) → W p l e R s m args below meth c H locs cells slots Q (F0 m pc1 ar1 (mi_st ad st1))) : W p l e R s m args below meth c H locs cells slots Q (F0 m pc ar (mi_st ad st)) := by
  cases (beq_iff_eq.mp hlen)
  simp only [mi_pure] at h
  split at h
  next y x r =>
    cases h
    exact lv_ixor hexec hb hd (kk ar har)
  next => cases h
theorem mi_p_ishl (hexec : p.tables.exec = Jvm.exec) (hb : c.code = cc) (hd : decode cc pc = .ok (.ishl, len)) (hlen : mi_len (.ishl) len = true) {pc1 : Nat} {ls1 : mi_L} {st1 : List Value} (h : mi_pure (.ishl) pc nL ls st = some (pc1, ls1, st1)) (har : lv_has ar nL (mi_ls ad ls)) (kk : ∀ ar1 : Array Slot, lv_has ar1 nL (mi_ls ad ls1) → W p l e R s m args below meth c H locs cells slots Q (F0 m pc1 ar1 (mi_st ad st1))) : W p l e R s m args below meth c H locs cells slots Q (F0 m pc ar (mi_st ad st)) := by
  cases (beq_iff_eq.mp hlen)
  simp only [mi_pure] at h
  split at h
  next y x r =>
    cases h
    exact lv_ishl hexec hb hd (kk ar har)
  next => cases h
theorem mi_p_ishr (hexec : p.tables.exec = Jvm.exec) (hb : c.code = cc) (hd : decode cc pc = .ok (.ishr, len)) (hlen : mi_len (.ishr) len = true) {pc1 : Nat} {ls1 : mi_L} {st1 : List Value} (h : mi_pure (.ishr) pc nL ls st = some (pc1, ls1, st1)) (har : lv_has ar nL (mi_ls ad ls)) (kk : ∀ ar1 : Array Slot, lv_has ar1 nL (mi_ls ad ls1) → W p l e R s m args below meth c H locs cells slots Q (F0 m pc1 ar1 (mi_st ad st1))) : W p l e R s m args below meth c H locs cells slots Q (F0 m pc ar (mi_st ad st)) := by
  cases (beq_iff_eq.mp hlen)
  simp only [mi_pure] at h
  split at h
  next y x r =>
    cases h
    exact lv_ishr hexec hb hd (kk ar har)
  next => cases h
theorem mi_p_iushr (hexec : p.tables.exec = Jvm.exec) (hb : c.code = cc) (hd : decode cc pc = .ok (.iushr, len)) (hlen : mi_len (.iushr) len = true) {pc1 : Nat} {ls1 : mi_L} {st1 : List Value} (h : mi_pure (.iushr) pc nL ls st = some (pc1, ls1, st1)) (har : lv_has ar nL (mi_ls ad ls)) (kk : ∀ ar1 : Array Slot, lv_has ar1 nL (mi_ls ad ls1) → W p l e R s m args below meth c H locs cells slots Q (F0 m pc1 ar1 (mi_st ad st1))) : W p l e R s m args below meth c H locs cells slots Q (F0 m pc ar (mi_st ad st)) := by
  cases (beq_iff_eq.mp hlen)
  simp only [mi_pure] at h
  split at h
  next y x r =>
    cases h
    exact lv_iushr hexec hb hd rfl (kk ar har)
  next => cases h
theorem mi_p_idiv (hexec : p.tables.exec = Jvm.exec) (hb : c.code = cc) (hd : decode cc pc = .ok (.idiv, len)) (hlen : mi_len (.idiv) len = true) {pc1 : Nat} {ls1 : mi_L} {st1 : List Value} (h : mi_pure (.idiv) pc nL ls st = some (pc1, ls1, st1)) (har : lv_has ar nL (mi_ls ad ls)) (kk : ∀ ar1 : Array Slot, lv_has ar1 nL (mi_ls ad ls1) → W p l e R s m args below meth c H locs cells slots Q (F0 m pc1 ar1 (mi_st ad st1))) : W p l e R s m args below meth c H locs cells slots Q (F0 m pc ar (mi_st ad st)) := by
  cases (beq_iff_eq.mp hlen)
  simp only [mi_pure] at h
  split at h
  next y x r =>
    split at h
    next => cases h
    next hy =>
      cases h
      exact lv_idiv hexec hb hd (beq_eq_false_iff_ne.mp hy) (kk ar har)
  next => cases h
theorem mi_p_irem (hexec : p.tables.exec = Jvm.exec) (hb : c.code = cc) (hd : decode cc pc = .ok (.irem, len)) (hlen : mi_len (.irem) len = true) {pc1 : Nat} {ls1 : mi_L} {st1 : List Value} (h : mi_pure (.irem) pc nL ls st = some (pc1, ls1, st1)) (har : lv_has ar nL (mi_ls ad ls)) (kk : ∀ ar1 : Array Slot, lv_has ar1 nL (mi_ls ad ls1) → W p l e R s m args below meth c H locs cells slots Q (F0 m pc1 ar1 (mi_st ad st1))) : W p l e R s m args below meth c H locs cells slots Q (F0 m pc ar (mi_st ad st)) := by
  cases (beq_iff_eq.mp hlen)
  simp only [mi_pure] at h
  split at h
  next y x r =>
    split at h
    next => cases h
    next hy =>
      cases h
      exact lv_irem hexec hb hd (beq_eq_false_iff_ne.mp hy) (kk ar har)
  next => cases h
theorem mi_p_ladd (hexec : p.tables.exec = Jvm.exec) (hb : c.code = cc) (hd : decode cc pc = .ok (.ladd, len)) (hlen : mi_len (.ladd) len = true) {pc1 : Nat} {ls1 : mi_L} {st1 : List Value} (h : mi_pure (.ladd) pc nL ls st = some (pc1, ls1, st1)) (har : lv_has ar nL (mi_ls ad ls)) (kk : ∀ ar1 : Array Slot, lv_has ar1 nL (mi_ls ad ls1) → W p l e R s m args below meth c H locs cells slots Q (F0 m pc1 ar1 (mi_st ad st1))) : W p l e R s m args below meth c H locs cells slots Q (F0 m pc ar (mi_st ad st)) := by
  cases (beq_iff_eq.mp hlen)
  simp only [mi_pure] at h
  split at h
  next y x r =>
    cases h
    exact lv_ladd hexec hb hd (kk ar har)
  next => cases h
theorem mi_p_lmul (hexec : p.tables.exec = Jvm.exec) (hb : c.code = cc) (hd : decode cc pc = .ok (.lmul, len)) (hlen : mi_len (.lmul) len = true) {pc1 : Nat} {ls1 : mi_L} {st1 : List Value} (h : mi_pure (.lmul) pc nL ls st = some (pc1, ls1, st1)) (har : lv_has ar nL (mi_ls ad ls)) (kk : ∀ ar1 : Array Slot, lv_has ar1 nL (mi_ls ad ls1) → W p l e R s m args below meth c H locs cells slots Q (F0 m pc1 ar1 (mi_st ad st1))) : W p l e R s m args below meth c H locs cells slots Q (F0 m pc ar (mi_st ad st)) := by
  cases (beq_iff_eq.mp hlen)
  simp only [mi_pure] at h
  split at h
  next y x r =>
    cases h
    exact lv_lmul hexec hb hd (kk ar har)
  next => cases h
theorem mi_p_land (hexec : p.tables.exec = Jvm.exec) (hb : c.code = cc) (hd : decode cc pc = .ok (.land, len)) (hlen : mi_len (.land) len = true) {pc1 : Nat} {ls1 : mi_L} {st1 : List Value} (h : mi_pure (.land) pc nL ls st = some (pc1, ls1, st1)) (har : lv_has ar nL (mi_ls ad ls)) (kk : ∀ ar1 : Array Slot, lv_has ar1 nL (mi_ls ad ls1) → W p l e R s m args below meth c H locs cells slots Q (F0 m pc1 ar1 (mi_st ad st1))) : W p l e R s m args below meth c H locs cells slots Q (F0 m pc ar (mi_st ad st)) := by
  cases (beq_iff_eq.mp hlen)
  simp only [mi_pure] at h
  split at h
  next y x r =>
    cases h
    exact lv_land hexec hb hd (kk ar har)
  next => cases h
theorem mi_p_lor (hexec : p.tables.exec = Jvm.exec) (hb : c.code = cc) (hd : decode cc pc = .ok (.lor, len)) (hlen : mi_len (.lor) len = true) {pc1 : Nat} {ls1 : mi_L} {st1 : List Value} (h : mi_pure (.lor) pc nL ls st = some (pc1, ls1, st1)) (har : lv_has ar nL (mi_ls ad ls)) (kk : ∀ ar1 : Array Slot, lv_has ar1 nL (mi_ls ad ls1) → W p l e R s m args below meth c H locs cells slots Q (F0 m pc1 ar1 (mi_st ad st1))) : W p l e R s m args below meth c H locs cells slots Q (F0 m pc ar (mi_st ad st)) := by
  cases (beq_iff_eq.mp hlen)
  simp only [mi_pure] at h
  split at h
  next y x r =>
    cases h
    exact lv_lor hexec hb hd (kk ar har)
  next => cases h
theorem mi_p_lshl (hexec : p.tables.exec = Jvm.exec) (hb : c.code = cc) (hd : decode cc pc = .ok (.lshl, len)) (hlen : mi_len (.lshl) len = true) {pc1 : Nat} {ls1 : mi_L} {st1 : List Value} (h : mi_pure (.lshl) pc nL ls st = some (pc1, ls1, st1)) (har : lv_has ar nL (mi_ls ad ls)) (kk : ∀ ar1 : Array Slot, lv_has ar1 nL (mi_ls ad ls1) → W p l e R s m args below meth c H locs cells slots Q (F0 m pc1 ar1 (mi_st ad st1))) : W p l e R s m args below meth c H locs cells slots Q (F0 m pc ar (mi_st ad st)) := by
  cases (beq_iff_eq.mp hlen)
  simp only [mi_pure] at h
  split at h
  next y x r =>
    cases h
    exact lv_lshl hexec hb hd rfl (kk ar har)
  next => cases h
theorem mi_p_lcmp (hexec : p.tables.exec = Jvm.exec) (hb : c.code = cc) (hd : decode cc pc = .ok (.lcmp, len)) (hlen : mi_len (.lcmp) len = true) {pc1 : Nat} {ls1 : mi_L} {st1 : List Value} (h : mi_pure (.lcmp) pc nL ls st = some (pc1, ls1, st1)) (har : lv_has ar nL (mi_ls ad ls)) (kk : ∀ ar1 : Array Slot, lv_has ar1 nL (mi_ls ad ls1) → W p l e R s m args below meth c H locs cells slots Q (F0 m pc1 ar1 (mi_st ad st1))) : W p l e R s m args below meth c H locs cells slots Q (F0 m pc ar (mi_st ad st)) := by
  cases (beq_iff_eq.mp hlen)
  simp only [mi_pure] at h
  split at h
  next y x r =>
    cases h
    exact W.lcmp hexec hb hd (kk ar har)
  next => cases h
theorem mi_p_ineg (hexec : p.tables.exec = Jvm.exec) (hb : c.code = cc) (hd : decode cc pc = .ok (.ineg, len)) (hlen : mi_len (.ineg) len = true) {pc1 : Nat} {ls1 : mi_L} {st1 : List Value} (h : mi_pure (.ineg) pc nL ls st = some (pc1, ls1, st1)) (har : lv_has ar nL (mi_ls ad ls)) (kk : ∀ ar1 : Array Slot, lv_has ar1 nL (mi_ls ad ls1) → W p l e R s m args below meth c H locs cells slots Q (F0 m pc1 ar1 (mi_st ad st1))) : W p l e R s m args below meth c H locs cells slots Q (F0 m pc ar (mi_st ad st)) := by
  cases (beq_iff_eq.mp hlen)
  simp only [mi_pure] at h
  split at h
  next x r =>
    cases h
    exact lv_ineg hexec hb hd (kk ar har)
  next => cases h
theorem mi_p_i2l (hexec : p.tables.exec = Jvm.exec) (hb : c.code = cc) (hd : decode cc pc = .ok (.i2l, len)) (hlen : mi_len (.i2l) len = true) {pc1 : Nat} {ls1 : mi_L} {st1 : List Value} (h : mi_pure (.i2l) pc nL ls st = some (pc1, ls1, st1)) (har : lv_has ar nL (mi_ls ad ls)) (kk : ∀ ar1 : Array Slot, lv_has ar1 nL (mi_ls ad ls1) → W p l e R s m args below meth c H locs cells slots Q (F0 m pc1 ar1 (mi_st ad st1))) : W p l e R s m args below meth c H locs cells slots Q (F0 m pc ar (mi_st ad st)) := by
  cases (beq_iff_eq.mp hlen)
  simp only [mi_pure] at h
  split at h
  next x r =>
    cases h
    exact lv_i2l hexec hb hd rfl (kk ar har)
  next => cases h
theorem mi_p_l2i (hexec : p.tables.exec = Jvm.exec) (hb : c.code = cc) (hd : decode cc pc = .ok (.l2i, len)) (hlen : mi_len (.l2i) len = true) {pc1 : Nat} {ls1 : mi_L} {st1 : List Value} (h : mi_pure (.l2i) pc nL ls st = some (pc1, ls1, st1)) (har : lv_has ar nL (mi_ls ad ls)) (kk : ∀ ar1 : Array Slot, lv_has ar1 nL (mi_ls ad ls1) → W p l e R s m args below meth c H locs cells slots Q (F0 m pc1 ar1 (mi_st ad st1))) : W p l e R s m args below meth c H locs cells slots Q (F0 m pc ar (mi_st ad st)) := by
  cases (beq_iff_eq.mp hlen)
  simp only [mi_pure] at h
  split at h
  next x r =>
    cases h
    exact lv_l2i hexec hb hd rfl (kk ar har)
  next => cases h
theorem mi_p_i2b (hexec : p.tables.exec = Jvm.exec) (hb : c.code = cc) (hd : decode cc pc = .ok (.i2b, len)) (hlen : mi_len (.i2b) len = true) {pc1 : Nat} {ls1 : mi_L} {st1 : List Value} (h : mi_pure (.i2b) pc nL ls st = some (pc1, ls1, st1)) (har : lv_has ar nL (mi_ls ad ls)) (kk : ∀ ar1 : Array Slot, lv_has ar1 nL (mi_ls ad ls1) → W p l e R s m args below meth c H locs cells slots Q (F0 m pc1 ar1 (mi_st ad st1))) : W p l e R s m args below meth c H locs cells slots Q (F0 m pc ar (mi_st ad st)) := by
  cases (beq_iff_eq.mp hlen)
  simp only [mi_pure] at h
  split at h
  next x r =>
    cases h
    exact lv_i2b hexec hb hd rfl (kk ar har)
  next => cases h
theorem mi_p_i2s (hexec : p.tables.exec = Jvm.exec) (hb : c.code = cc) (hd : decode cc pc = .ok (.i2s, len)) (hlen : mi_len (.i2s) len = true) {pc1 : Nat} {ls1 : mi_L} {st1 : List Value} (h : mi_pure (.i2s) pc nL ls st = some (pc1, ls1, st1)) (har : lv_has ar nL (mi_ls ad ls)) (kk : ∀ ar1 : Array Slot, lv_has ar1 nL (mi_ls ad ls1) → W p l e R s m args below meth c H locs cells slots Q (F0 m pc1 ar1 (mi_st ad st1))) : W p l e R s m args below meth c H locs cells slots Q (F0 m pc ar (mi_st ad st)) := by
  cases (beq_iff_eq.mp hlen)
  simp only [mi_pure] at h
  split at h
  next x r =>
    cases h
    exact lv_i2s hexec hb hd rfl (kk ar har)
  next => cases h
theorem mi_p_i2c (hexec : p.tables.exec = Jvm.exec) (hb : c.code = cc) (hd : decode cc pc = .ok (.i2c, len)) (hlen : mi_len (.i2c) len = true) {pc1 : Nat} {ls1 : mi_L} {st1 : List Value} (h : mi_pure (.i2c) pc nL ls st = some (pc1, ls1, st1)) (har : lv_has ar nL (mi_ls ad ls)) (kk : ∀ ar1 : Array Slot, lv_has ar1 nL (mi_ls ad ls1) → W p l e R s m args below meth c H locs cells slots Q (F0 m pc1 ar1 (mi_st ad st1))) : W p l e R s m args below meth c H locs cells slots Q (F0 m pc ar (mi_st ad st)) := by
  cases (beq_iff_eq.mp hlen)
  simp only [mi_pure] at h
  split at h
  next x r =>
    cases h
    exact lv_i2c hexec hb hd rfl (kk ar har)
  next => cases h
theorem mi_p_dup (hexec : p.tables.exec = Jvm.exec) (hb : c.code = cc) (hd : decode cc pc = .ok (.dup, len)) (hlen : mi_len (.dup) len = true) {pc1 : Nat} {ls1 : mi_L} {st1 : List Value} (h : mi_pure (.dup) pc nL ls st = some (pc1, ls1, st1)) (har : lv_has ar nL (mi_ls ad ls)) (kk : ∀ ar1 : Array Slot, lv_has ar1 nL (mi_ls ad ls1) → W p l e R s m args below meth c H locs cells slots Q (F0 m pc1 ar1 (mi_st ad st1))) : W p l e R s m args below meth c H locs cells slots Q (F0 m pc ar (mi_st ad st)) := by
  cases (beq_iff_eq.mp hlen)
  simp only [mi_pure] at h
  split at h
  next v r =>
    split at h
    next hv =>
      cases h
      exact lv_dup hexec hb hd ((mi_v_cat ad v).trans (beq_iff_eq.mp hv)) (kk ar har)
    next => cases h
  next => cases h
theorem mi_p_pop (hexec : p.tables.exec = Jvm.exec) (hb : c.code = cc) (hd : decode cc pc = .ok (.pop, len)) (hlen : mi_len (.pop) len = true) {pc1 : Nat} {ls1 : mi_L} {st1 : List Value} (h : mi_pure (.pop) pc nL ls st = some (pc1, ls1, st1)) (har : lv_has ar nL (mi_ls ad ls)) (kk : ∀ ar1 : Array Slot, lv_has ar1 nL (mi_ls ad ls1) → W p l e R s m args below meth c H locs cells slots Q (F0 m pc1 ar1 (mi_st ad st1))) : W p l e R s m args below meth c H locs cells slots Q (F0 m pc ar (mi_st ad st)) := by
  cases (beq_iff_eq.mp hlen)
  simp only [mi_pure] at h
  split at h
  next v r =>
    split at h
    next hv =>
      cases h
      exact lv_pop hexec hb hd ((mi_v_cat ad v).trans (beq_iff_eq.mp hv)) (kk ar har)
    next => cases h
  next => cases h
theorem mi_p_pop2 (hexec : p.tables.exec = Jvm.exec) (hb : c.code = cc) (hd : decode cc pc = .ok (.pop2, len)) (hlen : mi_len (.pop2) len = true) {pc1 : Nat} {ls1 : mi_L} {st1 : List Value} (h : mi_pure (.pop2) pc nL ls st = some (pc1, ls1, st1)) (har : lv_has ar nL (mi_ls ad ls)) (kk : ∀ ar1 : Array Slot, lv_has ar1 nL (mi_ls ad ls1) → W p l e R s m args below meth c H locs cells slots Q (F0 m pc1 ar1 (mi_st ad st1))) : W p l e R s m args below meth c H locs cells slots Q (F0 m pc ar (mi_st ad st)) := by
  cases (beq_iff_eq.mp hlen)
  simp only [mi_pure] at h
  split at h
  next v r =>
    split at h
    next hv =>
      cases h
      exact lv_pop2_2 hexec hb hd ((mi_v_cat ad v).trans (beq_iff_eq.mp hv)) (kk ar har)
    next => cases h
  next => cases h
theorem mi_p_dup_x1 (hexec : p.tables.exec = Jvm.exec) (hb : c.code = cc) (hd : decode cc pc = .ok (.dup_x1, len)) (hlen : mi_len (.dup_x1) len = true) {pc1 : Nat} {ls1 : mi_L} {st1 : List Value} (h : mi_pure (.dup_x1) pc nL ls st = some (pc1, ls1, st1)) (har : lv_has ar nL (mi_ls ad ls)) (kk : ∀ ar1 : Array Slot, lv_has ar1 nL (mi_ls ad ls1) → W p l e R s m args below meth c H locs cells slots Q (F0 m pc1 ar1 (mi_st ad st1))) : W p l e R s m args below meth c H locs cells slots Q (F0 m pc ar (mi_st ad st)) := by
  cases (beq_iff_eq.mp hlen)
  simp only [mi_pure] at h
  split at h
  next v u r =>
    split at h
    next hv =>
      cases h
      obtain ⟨h1, h2⟩ := Bool.and_eq_true_iff.mp hv
      exact lv_dup_x1 hexec hb hd ((mi_v_cat ad v).trans (beq_iff_eq.mp h1)) ((mi_v_cat ad u).trans (beq_iff_eq.mp h2)) (kk ar har)
    next => cases h
  next => cases h
theorem mi_p_dup2 (hexec : p.tables.exec = Jvm.exec) (hb : c.code = cc) (hd : decode cc pc = .ok (.dup2, len)) (hlen : mi_len (.dup2) len = true) {pc1 : Nat} {ls1 : mi_L} {st1 : List Value} (h : mi_pure (.dup2) pc nL ls st = some (pc1, ls1, st1)) (har : lv_has ar nL (mi_ls ad ls)) (kk : ∀ ar1 : Array Slot, lv_has ar1 nL (mi_ls ad ls1) → W p l e R s m args below meth c H locs cells slots Q (F0 m pc1 ar1 (mi_st ad st1))) : W p l e R s m args below meth c H locs cells slots Q (F0 m pc ar (mi_st ad st)) := by
  cases (beq_iff_eq.mp hlen)
  simp only [mi_pure] at h
  split at h
  next v u r =>
    split at h
    next hv =>
      cases h
      obtain ⟨h1, h2⟩ := Bool.and_eq_true_iff.mp hv
      exact lv_dup2_11 hexec hb hd ((mi_v_cat ad v).trans (beq_iff_eq.mp h1)) ((mi_v_cat ad u).trans (beq_iff_eq.mp h2)) (kk ar har)
    next => cases h
  next => cases h
theorem mi_p_if_eq (hexec : p.tables.exec = Jvm.exec) (hb : c.code = cc) {off : Int} (hd : decode cc pc = .ok (.ifCond .eq off, len)) (hlen : mi_len (.ifCond .eq off) len = true) {pc1 : Nat} {ls1 : mi_L} {st1 : List Value} (h : mi_pure (.ifCond .eq off) pc nL ls st = some (pc1, ls1, st1)) (har : lv_has ar nL (mi_ls ad ls)) (kk : ∀ ar1 : Array Slot, lv_has ar1 nL (mi_ls ad ls1) → W p l e R s m args below meth c H locs cells slots Q (F0 m pc1 ar1 (mi_st ad st1))) : W p l e R s m args below meth c H locs cells slots Q (F0 m pc ar (mi_st ad st)) := by
  cases (beq_iff_eq.mp hlen)
  simp only [mi_pure] at h
  split at h
  next x r =>
    obtain ⟨t, ht, rfl, rfl, p1, p2⟩ := mi_br_ok h
    refine lv_if_eq hexec hb hd ht ?_ ?_
    · exact fun z => by have hk := kk ar har; rw [p1 (beq_iff_eq.mpr z)] at hk; exact hk
    · exact fun z => by have hk := kk ar har; rw [p2 (beq_eq_false_iff_ne.mpr z)] at hk; exact hk
  next => cases h
theorem mi_p_icmp_eq (hexec : p.tables.exec = Jvm.exec) (hb : c.code = cc) {off : Int} (hd : decode cc pc = .ok (.if_icmp .eq off, len)) (hlen : mi_len (.if_icmp .eq off) len = true) {pc1 : Nat} {ls1 : mi_L} {st1 : List Value} (h : mi_pure (.if_icmp .eq off) pc nL ls st = some (pc1, ls1, st1)) (har : lv_has ar nL (mi_ls ad ls)) (kk : ∀ ar1 : Array Slot, lv_has ar1 nL (mi_ls ad ls1) → W p l e R s m args below meth c H locs cells slots Q (F0 m pc1 ar1 (mi_st ad st1))) : W p l e R s m args below meth c H locs cells slots Q (F0 m pc ar (mi_st ad st)) := by
  cases (beq_iff_eq.mp hlen)
  simp only [mi_pure] at h
  split at h
  next y x r =>
    obtain ⟨t, ht, rfl, rfl, p1, p2⟩ := mi_br_ok h
    refine lv_icmp_eq hexec hb hd ht ?_ ?_
    · exact fun z => by have hk := kk ar har; rw [p1 (beq_iff_eq.mpr z)] at hk; exact hk
    · exact fun z => by have hk := kk ar har; rw [p2 (beq_eq_false_iff_ne.mpr z)] at hk; exact hk
  next => cases h
theorem mi_p_if_ne (hexec : p.tables.exec = Jvm.exec) (hb : c.code = cc) {off : Int} (hd : decode cc pc = .ok (.ifCond .ne off, len)) (hlen : mi_len (.ifCond .ne off) len = true) {pc1 : Nat} {ls1 : mi_L} {st1 : List Value} (h : mi_pure (.ifCond .ne off) pc nL ls st = some (pc1, ls1, st1)) (har : lv_has ar nL (mi_ls ad ls)) (kk : ∀ ar1 : Array Slot, lv_has ar1 nL (mi_ls ad ls1) → W p l e R s m args below meth c H locs cells slots Q (F0 m pc1 ar1 (mi_st ad st1))) : W p l e R s m args below meth c H locs cells slots Q (F0 m pc ar (mi_st ad st)) := by
  cases (beq_iff_eq.mp hlen)
  simp only [mi_pure] at h
  split at h
  next x r =>
    obtain ⟨t, ht, rfl, rfl, p1, p2⟩ := mi_br_ok h
    refine lv_if_ne hexec hb hd ht ?_ ?_
    · exact fun z => by have hk := kk ar har; rw [p1 (bne_iff_ne.mpr z)] at hk; exact hk
    · exact fun z => by have hk := kk ar har; rw [p2 (by rw [z]; exact bne_self_eq_false _)] at hk; exact hk
  next => cases h
theorem mi_p_icmp_ne (hexec : p.tables.exec = Jvm.exec) (hb : c.code = cc) {off : Int} (hd : decode cc pc = .ok (.if_icmp .ne off, len)) (hlen : mi_len (.if_icmp .ne off) len = true) {pc1 : Nat} {ls1 : mi_L} {st1 : List Value} (h : mi_pure (.if_icmp .ne off) pc nL ls st = some (pc1, ls1, st1)) (har : lv_has ar nL (mi_ls ad ls)) (kk : ∀ ar1 : Array Slot, lv_has ar1 nL (mi_ls ad ls1) → W p l e R s m args below meth c H locs cells slots Q (F0 m pc1 ar1 (mi_st ad st1))) : W p l e R s m args below meth c H locs cells slots Q (F0 m pc ar (mi_st ad st)) := by
  cases (beq_iff_eq.mp hlen)
  simp only [mi_pure] at h
  split at h
  next y x r =>
    obtain ⟨t, ht, rfl, rfl, p1, p2⟩ := mi_br_ok h
    refine lv_icmp_ne hexec hb hd ht ?_ ?_
    · exact fun z => by have hk := kk ar har; rw [p1 (bne_iff_ne.mpr z)] at hk; exact hk
    · exact fun z => by have hk := kk ar har; rw [p2 (by rw [z]; exact bne_self_eq_false _)] at hk; exact hk
  next => cases h
theorem mi_p_if_lt (hexec : p.tables.exec = Jvm.exec) (hb : c.code = cc) {off : Int} (hd : decode cc pc = .ok (.ifCond .lt off, len)) (hlen : mi_len (.ifCond .lt off) len = true) {pc1 : Nat} {ls1 : mi_L} {st1 : List Value} (h : mi_pure (.ifCond .lt off) pc nL ls st = some (pc1, ls1, st1)) (har : lv_has ar nL (mi_ls ad ls)) (kk : ∀ ar1 : Array Slot, lv_has ar1 nL (mi_ls ad ls1) → W p l e R s m args below meth c H locs cells slots Q (F0 m pc1 ar1 (mi_st ad st1))) : W p l e R s m args below meth c H locs cells slots Q (F0 m pc ar (mi_st ad st)) := by
  cases (beq_iff_eq.mp hlen)
  simp only [mi_pure] at h
  split at h
  next x r =>
    obtain ⟨t, ht, rfl, rfl, p1, p2⟩ := mi_br_ok h
    refine lv_if_lt hexec hb hd ht ?_ ?_
    · exact fun z => by have hk := kk ar har; rw [p1 (decide_eq_true z)] at hk; exact hk
    · exact fun z => by have hk := kk ar har; rw [p2 (decide_eq_false z)] at hk; exact hk
  next => cases h
theorem mi_p_icmp_lt (hexec : p.tables.exec = Jvm.exec) (hb : c.code = cc) {off : Int} (hd : decode cc pc = .ok (.if_icmp .lt off, len)) (hlen : mi_len (.if_icmp .lt off) len = true) {pc1 : Nat} {ls1 : mi_L} {st1 : List Value} (h : mi_pure (.if_icmp .lt off) pc nL ls st = some (pc1, ls1, st1)) (har : lv_has ar nL (mi_ls ad ls)) (kk : ∀ ar1 : Array Slot, lv_has ar1 nL (mi_ls ad ls1) → W p l e R s m args below meth c H locs cells slots Q (F0 m pc1 ar1 (mi_st ad st1))) : W p l e R s m args below meth c H locs cells slots Q (F0 m pc ar (mi_st ad st)) := by
  cases (beq_iff_eq.mp hlen)
  simp only [mi_pure] at h
  split at h
  next y x r =>
    obtain ⟨t, ht, rfl, rfl, p1, p2⟩ := mi_br_ok h
    refine lv_icmp_lt hexec hb hd ht ?_ ?_
    · exact fun z => by have hk := kk ar har; rw [p1 (decide_eq_true z)] at hk; exact hk
    · exact fun z => by have hk := kk ar har; rw [p2 (decide_eq_false z)] at hk; exact hk
  next => cases h
theorem mi_p_if_ge (hexec : p.tables.exec = Jvm.exec) (hb : c.code = cc) {off : Int} (hd : decode cc pc = .ok (.ifCond .ge off, len)) (hlen : mi_len (.ifCond .ge off) len = true) {pc1 : Nat} {ls1 : mi_L} {st1 : List Value} (h : mi_pure (.ifCond .ge off) pc nL ls st = some (pc1, ls1, st1)) (har : lv_has ar nL (mi_ls ad ls)) (kk : ∀ ar1 : Array Slot, lv_has ar1 nL (mi_ls ad ls1) → W p l e R s m args below meth c H locs cells slots Q (F0 m pc1 ar1 (mi_st ad st1))) : W p l e R s m args below meth c H locs cells slots Q (F0 m pc ar (mi_st ad st)) := by
  cases (beq_iff_eq.mp hlen)
  simp only [mi_pure] at h
  split at h
  next x r =>
    obtain ⟨t, ht, rfl, rfl, p1, p2⟩ := mi_br_ok h
    refine lv_if_ge hexec hb hd ht ?_ ?_
    · exact fun z => by have hk := kk ar har; rw [p1 (decide_eq_true z)] at hk; exact hk
    · exact fun z => by have hk := kk ar har; rw [p2 (decide_eq_false z)] at hk; exact hk
  next => cases h
theorem mi_p_icmp_ge (hexec : p.tables.exec = Jvm.exec) (hb : c.code = cc) {off : Int} (hd : decode cc pc = .ok (.if_icmp .ge off, len)) (hlen : mi_len (.if_icmp .ge off) len = true) {pc1 : Nat} {ls1 : mi_L} {st1 : List Value} (h : mi_pure (.if_icmp .ge off) pc nL ls st = some (pc1, ls1, st1)) (har : lv_has ar nL (mi_ls ad ls)) (kk : ∀ ar1 : Array Slot, lv_has ar1 nL (mi_ls ad ls1) → W p l e R s m args below meth c H locs cells slots Q (F0 m pc1 ar1 (mi_st ad st1))) : W p l e R s m args below meth c H locs cells slots Q (F0 m pc ar (mi_st ad st)) := by
  cases (beq_iff_eq.mp hlen)
  simp only [mi_pure] at h
  split at h
  next y x r =>
    obtain ⟨t, ht, rfl, rfl, p1, p2⟩ := mi_br_ok h
    refine lv_icmp_ge hexec hb hd ht ?_ ?_
    · exact fun z => by have hk := kk ar har; rw [p1 (decide_eq_true z)] at hk; exact hk
    · exact fun z => by have hk := kk ar har; rw [p2 (decide_eq_false z)] at hk; exact hk
  next => cases h
theorem mi_p_if_gt (hexec : p.tables.exec = Jvm.exec) (hb : c.code = cc) {off : Int} (hd : decode cc pc = .ok (.ifCond .gt off, len)) (hlen : mi_len (.ifCond .gt off) len = true) {pc1 : Nat} {ls1 : mi_L} {st1 : List Value} (h : mi_pure (.ifCond .gt off) pc nL ls st = some (pc1, ls1, st1)) (har : lv_has ar nL (mi_ls ad ls)) (kk : ∀ ar1 : Array Slot, lv_has ar1 nL (mi_ls ad ls1) → W p l e R s m args below meth c H locs cells slots Q (F0 m pc1 ar1 (mi_st ad st1))) : W p l e R s m args below meth c H locs cells slots Q (F0 m pc ar (mi_st ad st)) := by
  cases (beq_iff_eq.mp hlen)
  simp only [mi_pure] at h
  split at h
  next x r =>
    obtain ⟨t, ht, rfl, rfl, p1, p2⟩ := mi_br_ok h
    refine lv_if_gt hexec hb hd ht ?_ ?_
    · exact fun z => by have hk := kk ar har; rw [p1 (decide_eq_true z)] at hk; exact hk
    · exact fun z => by have hk := kk ar har; rw [p2 (decide_eq_false z)] at hk; exact hk
  next => cases h
theorem mi_p_icmp_gt (hexec : p.tables.exec = Jvm.exec) (hb : c.code = cc) {off : Int} (hd : decode cc pc = .ok (.if_icmp .gt off, len)) (hlen : mi_len (.if_icmp .gt off) len = true) {pc1 : Nat} {ls1 : mi_L} {st1 : List Value} (h : mi_pure (.if_icmp .gt off) pc nL ls st = some (pc1, ls1, st1)) (har : lv_has ar nL (mi_ls ad ls)) (kk : ∀ ar1 : Array Slot, lv_has ar1 nL (mi_ls ad ls1) → W p l e R s m args below meth c H locs cells slots Q (F0 m pc1 ar1 (mi_st ad st1))) : W p l e R s m args below meth c H locs cells slots Q (F0 m pc ar (mi_st ad st)) := by
  cases (beq_iff_eq.mp hlen)
  simp only [mi_pure] at h
  split at h
  next y x r =>
    obtain ⟨t, ht, rfl, rfl, p1, p2⟩ := mi_br_ok h
    refine lv_icmp_gt hexec hb hd ht ?_ ?_
    · exact fun z => by have hk := kk ar har; rw [p1 (decide_eq_true z)] at hk; exact hk
    · exact fun z => by have hk := kk ar har; rw [p2 (decide_eq_false z)] at hk; exact hk
  next => cases h
theorem mi_p_if_le (hexec : p.tables.exec = Jvm.exec) (hb : c.code = cc) {off : Int} (hd : decode cc pc = .ok (.ifCond .le off, len)) (hlen : mi_len (.ifCond .le off) len = true) {pc1 : Nat} {ls1 : mi_L} {st1 : List Value} (h : mi_pure (.ifCond .le off) pc nL ls st = some (pc1, ls1, st1)) (har : lv_has ar nL (mi_ls ad ls)) (kk : ∀ ar1 : Array Slot, lv_has ar1 nL (mi_ls ad ls1) → W p l e R s m args below meth c H locs cells slots Q (F0 m pc1 ar1 (mi_st ad st1))) : W p l e R s m args below meth c H locs cells slots Q (F0 m pc ar (mi_st ad st)) := by
  cases (beq_iff_eq.mp hlen)
  simp only [mi_pure] at h
  split at h
  next x r =>
    obtain ⟨t, ht, rfl, rfl, p1, p2⟩ := mi_br_ok h
    refine lv_if_le hexec hb hd ht ?_ ?_
    · exact fun z => by have hk := kk ar har; rw [p1 (decide_eq_true z)] at hk; exact hk
    · exact fun z => by have hk := kk ar har; rw [p2 (decide_eq_false z)] at hk; exact hk
  next => cases h
theorem mi_p_icmp_le (hexec : p.tables.exec = Jvm.exec) (hb : c.code = cc) {off : Int} (hd : decode cc pc = .ok (.if_icmp .le off, len)) (hlen : mi_len (.if_icmp .le off) len = true) {pc1 : Nat} {ls1 : mi_L} {st1 : List Value} (h : mi_pure (.if_icmp .le off) pc nL ls st = some (pc1, ls1, st1)) (har : lv_has ar nL (mi_ls ad ls)) (kk : ∀ ar1 : Array Slot, lv_has ar1 nL (mi_ls ad ls1) → W p l e R s m args below meth c H locs cells slots Q (F0 m pc1 ar1 (mi_st ad st1))) : W p l e R s m args below meth c H locs cells slots Q (F0 m pc ar (mi_st ad st)) := by
  cases (beq_iff_eq.mp hlen)
  simp only [mi_pure] at h
  split at h
  next y x r =>
    obtain ⟨t, ht, rfl, rfl, p1, p2⟩ := mi_br_ok h
    refine lv_icmp_le hexec hb hd ht ?_ ?_
    · exact fun z => by have hk := kk ar har; rw [p1 (decide_eq_true z)] at hk; exact hk
    · exact fun z => by have hk := kk ar har; rw [p2 (decide_eq_false z)] at hk; exact hk
  next => cases h
theorem mi_p_goto (hexec : p.tables.exec = Jvm.exec) (hb : c.code = cc) {off : Int} (hd : decode cc pc = .ok (.goto off, len)) (hlen : mi_len (.goto off) len = true) {pc1 : Nat} {ls1 : mi_L} {st1 : List Value} (h : mi_pure (.goto off) pc nL ls st = some (pc1, ls1, st1)) (har : lv_has ar nL (mi_ls ad ls)) (kk : ∀ ar1 : Array Slot, lv_has ar1 nL (mi_ls ad ls1) → W p l e R s m args below meth c H locs cells slots Q (F0 m pc1 ar1 (mi_st ad st1))) : W p l e R s m args below meth c H locs cells slots Q (F0 m pc ar (mi_st ad st)) := by
  cases (beq_iff_eq.mp hlen)
  simp only [mi_pure] at h
  split at h
  next t ht =>
    cases h
    exact lv_goto hexec hb hd (mi_to_ok ht) (kk ar har)
  next => cases h
theorem mi_p_tableswitch (hexec : p.tables.exec = Jvm.exec) (hb : c.code = cc) {d lo hi : Int} {offs : Array Int} (hd : decode cc pc = .ok (.tableswitch d lo hi offs, len)) (hlen : mi_len (.tableswitch d lo hi offs) len = true) {pc1 : Nat} {ls1 : mi_L} {st1 : List Value} (h : mi_pure (.tableswitch d lo hi offs) pc nL ls st = some (pc1, ls1, st1)) (har : lv_has ar nL (mi_ls ad ls)) (kk : ∀ ar1 : Array Slot, lv_has ar1 nL (mi_ls ad ls1) → W p l e R s m args below meth c H locs cells slots Q (F0 m pc1 ar1 (mi_st ad st1))) : W p l e R s m args below meth c H locs cells slots Q (F0 m pc ar (mi_st ad st)) := by
  simp only [mi_pure] at h
  split at h
  next x r =>
    split at h
    next hx =>
      split at h
      next t ht =>
        cases h
        exact lv_tableOut hexec hb hd (of_decide_eq_true hx) (mi_to_ok ht) (kk ar har)
      next => cases h
    next hx =>
      split at h
      next off ho =>
        split at h
        next t ht =>
          cases h
          have hn := of_decide_eq_false hx
          exact lv_tableIn hexec hb hd (fun z => hn (Or.inl z)) (fun z => hn (Or.inr z)) ho (mi_to_ok ht) (kk ar har)
        next => cases h
      next => cases h
  next => cases h
theorem mi_p_lookupswitch (hexec : p.tables.exec = Jvm.exec) (hb : c.code = cc) {d : Int} {ps : Array (Int × Int)} (hd : decode cc pc = .ok (.lookupswitch d ps, len)) (hlen : mi_len (.lookupswitch d ps) len = true) {pc1 : Nat} {ls1 : mi_L} {st1 : List Value} (h : mi_pure (.lookupswitch d ps) pc nL ls st = some (pc1, ls1, st1)) (har : lv_has ar nL (mi_ls ad ls)) (kk : ∀ ar1 : Array Slot, lv_has ar1 nL (mi_ls ad ls1) → W p l e R s m args below meth c H locs cells slots Q (F0 m pc1 ar1 (mi_st ad st1))) : W p l e R s m args below meth c H locs cells slots Q (F0 m pc ar (mi_st ad st)) := by
  simp only [mi_pure] at h
  split at h
  next x r =>
    split at h
    next t ht =>
      cases h
      exact lv_lookup hexec hb hd hlen rfl (mi_to_ok ht) (kk ar har)
    next => cases h
  next => cases h
theorem mi_pure_ok (hexec : p.tables.exec = Jvm.exec) (hb : c.code = cc) {ins : Instr} (hd : decode cc pc = .ok (ins, len)) (hlen : mi_len ins len = true) {pc1 : Nat} {ls1 : mi_L} {st1 : List Value} (h : mi_pure ins pc nL ls st = some (pc1, ls1, st1)) (har : lv_has ar nL (mi_ls ad ls)) (kk : ∀ ar1 : Array Slot, lv_has ar1 nL (mi_ls ad ls1) → W p l e R s m args below meth c H locs cells slots Q (F0 m pc1 ar1 (mi_st ad st1))) : W p l e R s m args below meth c H locs cells slots Q (F0 m pc ar (mi_st ad st)) := by
  cases ins with
  | iconst _ => exact mi_p_iconst hexec hb hd hlen h har kk
  | bipush _ => exact mi_p_bipush hexec hb hd hlen h har kk
  | sipush _ => exact mi_p_sipush hexec hb hd hlen h har kk
  | lconst _ => exact mi_p_lconst hexec hb hd hlen h har kk
  | iload_n _ => exact mi_p_iload_n hexec hb hd hlen h har kk
  | lload_n _ => exact mi_p_lload_n hexec hb hd hlen h har kk
  | aload_n _ => exact mi_p_aload_n hexec hb hd hlen h har kk
  | iload _ => exact mi_p_iload hexec hb hd hlen h har kk
  | lload _ => exact mi_p_lload hexec hb hd hlen h har kk
  | aload _ => exact mi_p_aload hexec hb hd hlen h har kk
  | istore_n _ => exact mi_p_istore_n hexec hb hd hlen h har kk
  | lstore_n _ => exact mi_p_lstore_n hexec hb hd hlen h har kk
  | astore_n _ => exact mi_p_astore_n hexec hb hd hlen h har kk
  | istore _ => exact mi_p_istore hexec hb hd hlen h har kk
  | lstore _ => exact mi_p_lstore hexec hb hd hlen h har kk
  | astore _ => exact mi_p_astore hexec hb hd hlen h har kk
  | iinc _ _ => exact mi_p_iinc hexec hb hd hlen h har kk
  | iadd => exact mi_p_iadd hexec hb hd hlen h har kk
  | isub => exact mi_p_isub hexec hb hd hlen h har kk
  | imul => exact mi_p_imul hexec hb hd hlen h har kk
  | iand => exact mi_p_iand hexec hb hd hlen h har kk
  | ior => exact mi_p_ior hexec hb hd hlen h har kk
  | ixor => exact mi_p_ixor hexec hb hd hlen h har kk
  | ishl => exact mi_p_ishl hexec hb hd hlen h har kk
  | ishr => exact mi_p_ishr hexec hb hd hlen h har kk
  | iushr => exact mi_p_iushr hexec hb hd hlen h har kk
  | idiv => exact mi_p_idiv hexec hb hd hlen h har kk
  | irem => exact mi_p_irem hexec hb hd hlen h har kk
  | ladd => exact mi_p_ladd hexec hb hd hlen h har kk
  | lmul => exact mi_p_lmul hexec hb hd hlen h har kk
  | land => exact mi_p_land hexec hb hd hlen h har kk
  | lor => exact mi_p_lor hexec hb hd hlen h har kk
  | lshl => exact mi_p_lshl hexec hb hd hlen h har kk
  | lcmp => exact mi_p_lcmp hexec hb hd hlen h har kk
  | ineg => exact mi_p_ineg hexec hb hd hlen h har kk
  | i2l => exact mi_p_i2l hexec hb hd hlen h har kk
  | l2i => exact mi_p_l2i hexec hb hd hlen h har kk
  | i2b => exact mi_p_i2b hexec hb hd hlen h har kk
  | i2s => exact mi_p_i2s hexec hb hd hlen h har kk
  | i2c => exact mi_p_i2c hexec hb hd hlen h har kk
  | dup => exact mi_p_dup hexec hb hd hlen h har kk
  | pop => exact mi_p_pop hexec hb hd hlen h har kk
  | pop2 => exact mi_p_pop2 hexec hb hd hlen h har kk
  | dup_x1 => exact mi_p_dup_x1 hexec hb hd hlen h har kk
  | dup2 => exact mi_p_dup2 hexec hb hd hlen h har kk
  | goto _ => exact mi_p_goto hexec hb hd hlen h har kk
  | tableswitch _ _ _ _ => exact mi_p_tableswitch hexec hb hd hlen h har kk
  | lookupswitch _ _ => exact mi_p_lookupswitch hexec hb hd hlen h har kk
  | ifCond cd off => cases cd with
    | eq => exact mi_p_if_eq hexec hb hd hlen h har kk
    | ne => exact mi_p_if_ne hexec hb hd hlen h har kk
    | lt => exact mi_p_if_lt hexec hb hd hlen h har kk
    | ge => exact mi_p_if_ge hexec hb hd hlen h har kk
    | gt => exact mi_p_if_gt hexec hb hd hlen h har kk
    | le => exact mi_p_if_le hexec hb hd hlen h har kk
  | if_icmp cd off => cases cd with
    | eq => exact mi_p_icmp_eq hexec hb hd hlen h har kk
    | ne => exact mi_p_icmp_ne hexec hb hd hlen h har kk
    | lt => exact mi_p_icmp_lt hexec hb hd hlen h har kk
    | ge => exact mi_p_icmp_ge hexec hb hd hlen h har kk
    | gt => exact mi_p_icmp_gt hexec hb hd hlen h har kk
    | le => exact mi_p_icmp_le hexec hb hd hlen h har kk
  | _ => simp [mi_pure] at h
end MI

